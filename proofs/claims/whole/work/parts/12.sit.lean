set_option maxHeartbeats 4000000 in
set_option maxRecDepth 100000 in
theorem m_X2_voters {l : Launch} {D : va_G} {cI cB cS : ClassId} (a : Nat → Nat) (st nj : Nat) (ln : Int32) (lw : Int32) (ss : Int32) (un : Int32) (en : Int32) (se : Int32) (si : Int32) (ca : Int32) (la : Int32) (sw : Int32) (sk : Int32) (rd : Int32) (hnj : nj ≤ 5) (hst : st < 32) : Ri l yX2_voters cX2_voters 2 (some .int) 0 0 D cI cB cS [.ref (a 4)] [oT a ln lw ss (nI st) un en se, oK a si (nI nj) ca la sw sk rd] (fun r => r = nI (mk (voB st) nj)) := by
  refine Ri.of (by decide) (Nat.le_of_ble_eq_true rfl) ?_
  intro zp ze zs zm zb zt zc C
  refine v_lv0 [(0, .ref (a 4))] rfl ?_
  refine v_iconst C 1 dX2_voters_0 (by decide) ?_
  refine v_aload_n C dX2_voters_1 0 rfl ?_
  refine v_get C f_X2_24 dX2_voters_2 0 rfl rfl ?_
  refine v_get C f_X2_102 dX2_voters_5 1 rfl rfl ?_
  refine v_ishl C dX2_voters_8 ?_
  refine v_iconst C 1 dX2_voters_9 (by decide) ?_
  refine v_isub C dX2_voters_10 ?_
  refine v_istore_n C [(1, .int ((1 <<< ((nI nj) &&& 31)) - 1)), (0, .ref (a 4))] dX2_voters_11 (by decide) rfl ?_
  refine v_iload_n C dX2_voters_12 0 rfl ?_
  refine v_aload_n C dX2_voters_13 1 rfl ?_
  refine v_get C f_X2_49 dX2_voters_14 0 rfl rfl ?_
  refine v_iconst C (-1) dX2_voters_17 (by decide) ?_
  refine v_ixor C dX2_voters_18 ?_
  refine v_iand C dX2_voters_19 ?_
  exact v_retRi C dX2_voters_20 rfl (by rw [raw_vo nj (by omega) st hst])
set_option maxHeartbeats 4000000 in
set_option maxRecDepth 100000 in
theorem m_X2_votesGuilty {l : Launch} {D : va_G} {cI cB cS : ClassId} (a : Nat → Nat) (un j : Nat) (ln : Int32) (lw : Int32) (ss : Int32) (sx : Int32) (en : Int32) (se : Int32) (tk : Nat → Int32) (si : Int32) (ju : Int32) (ca : Int32) (la : Int32) (sw : Int32) (sk : Int32) (rd : Int32) (ag : Nat → Int32) (cr : Int32) (mi : Int32) (hj : j < 5) (hun : un < 32) : Mi l yX2_votesGuilty cX2_votesGuilty 4 (some .boolean) 0 0 D cI cB cS [.ref (a 4), .int (nI j), .int cr, .int mi] [oT a ln lw ss sx (nI un) en se, ia (a 31) cI 5 tk, oK a si ju ca la sw sk rd, ia (a 21) cI 5 ag] (fun r w => r = bI (¬ (tk j = 2 ∧ un.testBit j = true) ∧ (¬ cr = 0 ∨ (tk j = 1 ∧ ¬ mi < 5 * ag j))) ∧ w = [oT a ln lw ss sx (nI (if tk j = 2 ∧ un.testBit j = true then clr un j else un)) en se, ia (a 31) cI 5 tk, oK a si ju ca la sw sk rd, ia (a 21) cI 5 ag]) := by
  refine Mi.of (by decide) (Nat.le_of_ble_eq_true rfl) ?_
  intro zp ze zs zm zb zt zc zz zA hA C hnm
  refine v_lv0 [(0, .ref (a 4)), (1, .int (nI j)), (2, .int cr), (3, .int mi)] rfl ?_
  refine v_aload_n C dX2_votesGuilty_0 0 rfl ?_
  refine v_get C f_X2_9 dX2_votesGuilty_1 0 rfl rfl ?_
  refine v_iload_n C dX2_votesGuilty_4 1 rfl ?_
  refine v_ialdN C dX2_votesGuilty_5 1 rfl j rfl (by omega) (by decide) ?_
  refine v_iconst C 2 dX2_votesGuilty_6 (by decide) ?_
  refine v_icmp_ne C 37 dX2_votesGuilty_7 (by decide) (fun c1 => ?_) (fun c1 => ?_)
  · refine v_iload_n C dX2_votesGuilty_37 2 rfl ?_
    refine v_if_ne C 66 dX2_votesGuilty_38 (by decide) (fun c2 => ?_) (fun c2 => ?_)
    · refine v_iconst C 1 dX2_votesGuilty_66 (by decide) ?_
      refine v_goto C 71 dX2_votesGuilty_67 (by decide) ?_
      exact v_reti C hA dX2_votesGuilty_71 rfl (by refine ⟨?_, ?_⟩ <;> first | (simp [bI, *]; done) | (simp_all [bI]; done))
    · refine v_aload_n C dX2_votesGuilty_41 0 rfl ?_
      refine v_get C f_X2_9 dX2_votesGuilty_42 0 rfl rfl ?_
      refine v_iload_n C dX2_votesGuilty_45 1 rfl ?_
      refine v_ialdN C dX2_votesGuilty_46 1 rfl j rfl (by omega) (by decide) ?_
      refine v_iconst C 1 dX2_votesGuilty_47 (by decide) ?_
      refine v_icmp_ne C 70 dX2_votesGuilty_48 (by decide) (fun c3 => ?_) (fun c3 => ?_)
      · refine v_iconst C 0 dX2_votesGuilty_70 (by decide) ?_
        exact v_reti C hA dX2_votesGuilty_71 rfl (by refine ⟨?_, ?_⟩ <;> first | (simp [bI, *]; done) | (simp_all [bI]; done))
      · refine v_iload_n C dX2_votesGuilty_51 3 rfl ?_
        refine v_iconst C 5 dX2_votesGuilty_52 (by decide) ?_
        refine v_aload_n C dX2_votesGuilty_53 0 rfl ?_
        refine v_get C f_X2_24 dX2_votesGuilty_54 0 rfl rfl ?_
        refine v_get C f_X2_112 dX2_votesGuilty_57 2 rfl rfl ?_
        refine v_iload_n C dX2_votesGuilty_60 1 rfl ?_
        refine v_ialdN C dX2_votesGuilty_61 3 rfl j rfl (by omega) (by decide) ?_
        refine v_imul C dX2_votesGuilty_62 ?_
        refine v_icmp_lt C 70 dX2_votesGuilty_63 (by decide) (fun c4 => ?_) (fun c4 => ?_)
        · refine v_iconst C 0 dX2_votesGuilty_70 (by decide) ?_
          exact v_reti C hA dX2_votesGuilty_71 rfl (by refine ⟨?_, ?_⟩ <;> first | (simp [bI, *]; done) | (simp_all [bI]; done))
        · refine v_iconst C 1 dX2_votesGuilty_66 (by decide) ?_
          refine v_goto C 71 dX2_votesGuilty_67 (by decide) ?_
          exact v_reti C hA dX2_votesGuilty_71 rfl (by refine ⟨?_, ?_⟩ <;> first | (simp [bI, *]; done) | (simp_all [bI]; done))
  · refine v_aload_n C dX2_votesGuilty_10 0 rfl ?_
    refine v_get C f_X2_50 dX2_votesGuilty_11 0 rfl rfl ?_
    refine v_iconst C 1 dX2_votesGuilty_14 (by decide) ?_
    refine v_iload_n C dX2_votesGuilty_15 1 rfl ?_
    refine v_ishl C dX2_votesGuilty_16 ?_
    refine v_iand C dX2_votesGuilty_17 ?_
    refine v_if_eq C 37 dX2_votesGuilty_18 (by decide) (fun c5 => ?_) (fun c5 => ?_)
    · have hb : un.testBit j = false := (raw_and un (by omega) j (by omega)).mp c5
      refine v_iload_n C dX2_votesGuilty_37 2 rfl ?_
      refine v_if_ne C 66 dX2_votesGuilty_38 (by decide) (fun c6 => ?_) (fun c6 => ?_)
      · refine v_iconst C 1 dX2_votesGuilty_66 (by decide) ?_
        refine v_goto C 71 dX2_votesGuilty_67 (by decide) ?_
        exact v_reti C hA dX2_votesGuilty_71 rfl (by refine ⟨?_, ?_⟩ <;> first | (simp [bI, *]; done) | (simp_all [bI]; done))
      · refine v_aload_n C dX2_votesGuilty_41 0 rfl ?_
        refine v_get C f_X2_9 dX2_votesGuilty_42 0 rfl rfl ?_
        refine v_iload_n C dX2_votesGuilty_45 1 rfl ?_
        refine v_ialdN C dX2_votesGuilty_46 1 rfl j rfl (by omega) (by decide) ?_
        refine v_iconst C 1 dX2_votesGuilty_47 (by decide) ?_
        refine v_icmp_ne C 70 dX2_votesGuilty_48 (by decide) (fun c7 => ?_) (fun c7 => ?_)
        · refine v_iconst C 0 dX2_votesGuilty_70 (by decide) ?_
          exact v_reti C hA dX2_votesGuilty_71 rfl (by refine ⟨?_, ?_⟩ <;> first | (simp [bI, *]; done) | (simp_all [bI]; done))
        · refine v_iload_n C dX2_votesGuilty_51 3 rfl ?_
          refine v_iconst C 5 dX2_votesGuilty_52 (by decide) ?_
          refine v_aload_n C dX2_votesGuilty_53 0 rfl ?_
          refine v_get C f_X2_24 dX2_votesGuilty_54 0 rfl rfl ?_
          refine v_get C f_X2_112 dX2_votesGuilty_57 2 rfl rfl ?_
          refine v_iload_n C dX2_votesGuilty_60 1 rfl ?_
          refine v_ialdN C dX2_votesGuilty_61 3 rfl j rfl (by omega) (by decide) ?_
          refine v_imul C dX2_votesGuilty_62 ?_
          refine v_icmp_lt C 70 dX2_votesGuilty_63 (by decide) (fun c8 => ?_) (fun c8 => ?_)
          · refine v_iconst C 0 dX2_votesGuilty_70 (by decide) ?_
            exact v_reti C hA dX2_votesGuilty_71 rfl (by refine ⟨?_, ?_⟩ <;> first | (simp [bI, *]; done) | (simp_all [bI]; done))
          · refine v_iconst C 1 dX2_votesGuilty_66 (by decide) ?_
            refine v_goto C 71 dX2_votesGuilty_67 (by decide) ?_
            exact v_reti C hA dX2_votesGuilty_71 rfl (by refine ⟨?_, ?_⟩ <;> first | (simp [bI, *]; done) | (simp_all [bI]; done))
    · have hb : un.testBit j = true := by cases hb : un.testBit j with | true => rfl | false => exact absurd ((raw_and un (by omega) j (by omega)).mpr hb) c5
      refine v_aload_n C dX2_votesGuilty_21 0 rfl ?_
      refine v_dup C dX2_votesGuilty_22 rfl ?_
      refine v_get C f_X2_50 dX2_votesGuilty_23 0 rfl rfl ?_
      refine v_iconst C 1 dX2_votesGuilty_26 (by decide) ?_
      refine v_iload_n C dX2_votesGuilty_27 1 rfl ?_
      refine v_ishl C dX2_votesGuilty_28 ?_
      refine v_iconst C (-1) dX2_votesGuilty_29 (by decide) ?_
      refine v_ixor C dX2_votesGuilty_30 ?_
      refine v_iand C dX2_votesGuilty_31 ?_
      refine v_put C p_X2_50 [oT a ln lw ss sx ((nI un) &&& ((1 <<< ((nI j) &&& 31)) ^^^ (-1))) en se, ia (a 31) cI 5 tk, oK a si ju ca la sw sk rd, ia (a 21) cI 5 ag] dX2_votesGuilty_32 0 rfl rfl rfl (Nat.le_of_ble_eq_true rfl) rfl ?_
      refine v_ws0 [oT a ln lw ss sx (nI (clr un j)) en se, ia (a 31) cI 5 tk, oK a si ju ca la sw sk rd, ia (a 21) cI 5 ag] (by rw [raw_clr un (by omega) j (by omega)]) ?_
      refine v_iconst C 0 dX2_votesGuilty_35 (by decide) ?_
      exact v_reti C hA dX2_votesGuilty_36 rfl (by refine ⟨?_, ?_⟩ <;> first | (simp [bI, *]; done) | (simp_all [bI]; done))
set_option maxHeartbeats 4000000 in
set_option maxRecDepth 100000 in
theorem m_X2_guiltyVotes {l : Launch} {D : va_G} {cI cB cS : ClassId} (a : Nat → Nat) (d un st lw nj : Nat) (ln : Int32) (ss : Int32) (en : Int32) (se : Int32) (tk : Nat → Int32) (si : Int32) (ca : Int32) (la : Int32) (sw : Int32) (sk : Int32) (rd : Int32) (ag : Nat → Int32) (mi : Int32) (hnj : nj ≤ 5) (hun : un < 2 ^ nj) (hst : st < 32) (hlw : lw < 64) (hd : d < 6) (hp5 : 2 ^ nj ≤ 32) : Mi l yX2_guiltyVotes cX2_guiltyVotes 7 (some .int) 1 23 D cI cB cS [.ref (a 4), .int (nI d), .int mi] [oT a ln (nI lw) ss (nI st) (nI un) en se, ia (a 31) cI 5 tk, oK a si (nI nj) ca la sw sk rd, ia (a 21) cI 5 ag] (fun r w => r = nI (mk (gB tk ag un st (lw.testBit d) mi) nj) ∧ w = [oT a ln (nI lw) ss (nI st) (nI (unF nj tk un st)) en se, ia (a 31) cI 5 tk, oK a si (nI nj) ca la sw sk rd, ia (a 21) cI 5 ag]) := by
  refine Mi.of (by decide) (Nat.le_of_ble_eq_true rfl) ?_
  intro zp ze zs zm zb zt zc zz zA hA C hnm
  refine v_lv0 [(0, .ref (a 4)), (1, .int (nI d)), (2, .int mi)] rfl ?_
  refine v_aload_n C dX2_guiltyVotes_0 0 rfl ?_
  refine v_get C f_X2_41 dX2_guiltyVotes_1 0 rfl rfl ?_
  refine v_iload_n C dX2_guiltyVotes_4 1 rfl ?_
  refine v_callSi C l_X2_105 (m_X4_bitOf lw d (by assumption) (by assumption)) (by decide) dX2_guiltyVotes_5 [] rfl rfl (rest := []) rfl (Nat.le_of_ble_eq_true rfl) (by decide) (fun r1 h2 => ?_)
  subst h2
  by_cases c3 : lw.testBit d = true
  · refine v_eqi 1 (bI_t c3) ?_
    refine v_iconst C 1 dX2_guiltyVotes_8 (by decide) ?_
    refine v_icmp_ne C 16 dX2_guiltyVotes_9 (by decide) (fun h => absurd h (by decide)) (fun _ => ?_)
    refine v_iconst C 1 dX2_guiltyVotes_12 (by decide) ?_
    refine v_goto C 17 dX2_guiltyVotes_13 (by decide) ?_
    refine v_istore_n C [(3, .int 1), (0, .ref (a 4)), (1, .int (nI d)), (2, .int mi)] dX2_guiltyVotes_17 (by decide) rfl ?_
    refine v_aload_n C dX2_guiltyVotes_18 1 rfl ?_
    refine v_callRi C l_X2_95 (m_X2_voters a st nj ln (nI lw) ss (nI un) en se si ca la sw sk rd hnj hst) (by decide) dX2_guiltyVotes_19 [0, 2] rfl 0 rfl rfl rfl (rest := []) rfl (Nat.le_of_ble_eq_true rfl) (by decide) (fun r4 h5 => ?_)
    subst h5
    refine v_istore C [(4, .int (nI (mk (voB st) nj))), (3, .int 1), (0, .ref (a 4)), (1, .int (nI d)), (2, .int mi)] dX2_guiltyVotes_22 (by decide) rfl ?_
    refine v_iconst C 0 dX2_guiltyVotes_24 (by decide) ?_
    refine v_istore C [(5, .int 0), (4, .int (nI (mk (voB st) nj))), (3, .int 1), (0, .ref (a 4)), (1, .int (nI d)), (2, .int mi)] dX2_guiltyVotes_25 (by decide) rfl ?_
    refine v_iconst C 0 dX2_guiltyVotes_27 (by decide) ?_
    refine v_istore C [(6, .int 0), (5, .int 0), (4, .int (nI (mk (voB st) nj))), (3, .int 1), (0, .ref (a 4)), (1, .int (nI d)), (2, .int mi)] dX2_guiltyVotes_28 (by decide) rfl ?_
    have lp : ∀ (n_7 : Nat) (i : Nat) (u : Nat) (g : Nat), nj - i < n_7 → (i ≤ nj) → (u = mk (unBi tk un st i) nj) → (g = mk (gB tk ag un st (lw.testBit d) mi) i) → V zp l ze (rmOf 1 23) zs zm [.ref (a 4), .int (nI d), .int mi].toArray zb zt zc D (IM zA zs) (QMi zb [.ref (a 4), .int (nI d), .int mi].toArray zs D cI cB cS [oT a ln (nI lw) ss (nI st) (nI un) en se, ia (a 31) cI 5 tk, oK a si (nI nj) ca la sw sk rd, ia (a 21) cI 5 ag] zz (fun r w => r = nI (mk (gB tk ag un st (lw.testBit d) mi) nj) ∧ w = [oT a ln (nI lw) ss (nI st) (nI (unF nj tk un st)) en se, ia (a 31) cI 5 tk, oK a si (nI nj) ca la sw sk rd, ia (a 21) cI 5 ag])) 0 0 7 [oT a ln (nI lw) ss (nI st) (nI u) en se, ia (a 31) cI 5 tk, oK a si (nI nj) ca la sw sk rd, ia (a 21) cI 5 ag] [(6, .int (nI i)), (5, .int (nI g)), (4, .int (nI (mk (voB st) nj))), (3, .int 1), (0, .ref (a 4)), (1, .int (nI d)), (2, .int mi)] 30 [] := by
      intro n_7
      induction n_7 with
      | zero => intro i u g b6; exact absurd b6 (by omega)
      | succ n_7 ihn_7 =>
        intro i u g b6 hi hu hg
        refine v_iload C dX2_guiltyVotes_30 0 rfl ?_
        refine v_aload_n C dX2_guiltyVotes_32 4 rfl ?_
        refine v_get C f_X2_24 dX2_guiltyVotes_33 0 rfl rfl ?_
        refine v_get C f_X2_102 dX2_guiltyVotes_36 2 rfl rfl ?_
        refine v_icmp_ge C 79 dX2_guiltyVotes_39 (by decide) (fun c8 => ?_) (fun c8 => ?_)
        · have nc8 : nj ≤ i := nI_leD c8 (by omega)
          have hie : i = nj := by omega
          refine v_iload C dX2_guiltyVotes_79 1 rfl ?_
          exact v_reti C hA dX2_guiltyVotes_81 rfl (⟨by rw [hg, hie], by rw [hu, hie, un_end]⟩)
        · have nc8 : i < nj := nI_ltD c8 (by omega)
          have hin : i < nj := nc8
          refine v_iload C dX2_guiltyVotes_42 2 rfl ?_
          refine v_iload C dX2_guiltyVotes_44 0 rfl ?_
          refine v_callSi C l_X2_105 (m_X4_bitOf (mk (voB st) nj) i (by have := mk_lt (voB st) nj; omega) (by omega)) (by decide) dX2_guiltyVotes_46 [] rfl rfl (rest := []) rfl (Nat.le_of_ble_eq_true rfl) (by decide) (fun r9 h10 => ?_)
          subst h10
          by_cases c11 : (mk (voB st) nj).testBit i = true
          · refine v_eqi 1 (bI_t c11) ?_
            refine v_iconst C 1 dX2_guiltyVotes_49 (by decide) ?_
            refine v_icmp_ne C 73 dX2_guiltyVotes_50 (by decide) (fun h => absurd h (by decide)) (fun _ => ?_)
            refine v_aload_n C dX2_guiltyVotes_53 4 rfl ?_
            refine v_iload C dX2_guiltyVotes_54 0 rfl ?_
            refine v_iload_n C dX2_guiltyVotes_56 3 rfl ?_
            refine v_iload_n C dX2_guiltyVotes_57 6 rfl ?_
            refine v_callMi C l_X2_108 (m_X2_votesGuilty a u i ln (nI lw) ss (nI st) en se tk si (nI nj) ca la sw sk rd ag 1 mi (by omega) (by have := mk_lt (unBi tk un st i) nj; omega)) (by decide) dX2_guiltyVotes_58 [0, 1, 2, 3] [] (wr := []) (by decide) rfl rfl (by decide) (by decide) 0 rfl rfl rfl (rest := []) rfl (Nat.le_of_ble_eq_true rfl) (by decide) (fun r14 w12 h13 => ?_)
            obtain ⟨rfl, rfl⟩ := h13
            refine v_ws0 [oT a ln (nI lw) ss (nI st) (nI (if tk i = 2 ∧ u.testBit i = true then clr u i else u)) en se, ia (a 31) cI 5 tk, oK a si (nI nj) ca la sw sk rd, ia (a 21) cI 5 ag] rfl ?_
            by_cases c15 : ¬ (tk i = 2 ∧ u.testBit i = true) ∧ (¬ (1 : Int32) = 0 ∨ (tk i = 1 ∧ ¬ mi < 5 * ag i))
            · refine v_eqi 1 (bI_t c15) ?_
              refine v_if_eq C 73 dX2_guiltyVotes_61 (by decide) (fun h => absurd h (by decide)) (fun _ => ?_)
              refine v_iload C dX2_guiltyVotes_64 1 rfl ?_
              refine v_iconst C 1 dX2_guiltyVotes_66 (by decide) ?_
              refine v_iload C dX2_guiltyVotes_67 0 rfl ?_
              refine v_ishl C dX2_guiltyVotes_69 ?_
              refine v_ior C dX2_guiltyVotes_70 ?_
              refine v_eqi (nI (set1 g i)) (raw_set g (by have := mk_lt (gB tk ag un st (lw.testBit d) mi) i; have := Nat.pow_le_pow_right (n := 2) (by omega) (show i ≤ 5 by omega); omega) i (by omega)) ?_
              refine v_istore C [(5, .int (nI (set1 g i))), (6, .int (nI i)), (4, .int (nI (mk (voB st) nj))), (3, .int 1), (0, .ref (a 4)), (1, .int (nI d)), (2, .int mi)] dX2_guiltyVotes_71 (by decide) rfl ?_
              refine v_iinc C (nI (i + 1)) [(6, .int (nI (i + 1))), (5, .int (nI (set1 g i))), (4, .int (nI (mk (voB st) nj))), (3, .int 1), (0, .ref (a 4)), (1, .int (nI d)), (2, .int mi)] 1 dX2_guiltyVotes_73 rfl (nI_inc _) (by decide) rfl ?_
              refine v_goto C 30 dX2_guiltyVotes_76 (by decide) ?_
              have hv : voB st i = true := by have q := c11; rw [mk_bit] at q; simp [hin] at q; exact q
              have ht : (mk (unBi tk un st i) nj).testBit i = un.testBit i := un_at hin
              exact ihn_7 (i + 1) (if tk i = 2 ∧ u.testBit i = true then clr u i else u) (set1 g i) (by omega) (by omega) (by rw [hu]; exact un_vote hnj hin hv) (by rw [hg]; exact set1_mk (by omega) (by have q := c15; rw [hu, ht] at q; exact (gB_iff hv (by simp [c3])).mpr q))
            · refine v_eqi 0 (bI_f c15) ?_
              refine v_if_eq C 73 dX2_guiltyVotes_61 (by decide) (fun _ => ?_) (fun h => absurd h (by decide))
              refine v_iinc C (nI (i + 1)) [(6, .int (nI (i + 1))), (5, .int (nI g)), (4, .int (nI (mk (voB st) nj))), (3, .int 1), (0, .ref (a 4)), (1, .int (nI d)), (2, .int mi)] 0 dX2_guiltyVotes_73 rfl (nI_inc _) (by decide) rfl ?_
              refine v_goto C 30 dX2_guiltyVotes_76 (by decide) ?_
              have hv : voB st i = true := by have q := c11; rw [mk_bit] at q; simp [hin] at q; exact q
              have ht : (mk (unBi tk un st i) nj).testBit i = un.testBit i := un_at hin
              exact ihn_7 (i + 1) (if tk i = 2 ∧ u.testBit i = true then clr u i else u) g (by omega) (by omega) (by rw [hu]; exact un_vote hnj hin hv) (by rw [hg]; exact mk_skip (by have q := c15; rw [hu, ht] at q; exact gB_no hv (by simp [c3]) q))
          · refine v_eqi 0 (bI_f c11) ?_
            refine v_iconst C 1 dX2_guiltyVotes_49 (by decide) ?_
            refine v_icmp_ne C 73 dX2_guiltyVotes_50 (by decide) (fun _ => ?_) (fun h => absurd h (by decide))
            refine v_iinc C (nI (i + 1)) [(6, .int (nI (i + 1))), (5, .int (nI g)), (4, .int (nI (mk (voB st) nj))), (3, .int 1), (0, .ref (a 4)), (1, .int (nI d)), (2, .int mi)] 0 dX2_guiltyVotes_73 rfl (nI_inc _) (by decide) rfl ?_
            refine v_goto C 30 dX2_guiltyVotes_76 (by decide) ?_
            have hv : voB st i = false := by have q := c11; rw [mk_bit] at q; simp [hin] at q; exact q
            exact ihn_7 (i + 1) u g (by omega) (by omega) (by rw [hu]; exact un_keep (by simp [unB, hv])) (by rw [hg]; exact mk_skip (by simp [gB, hv]))
    exact lp (nj - 0 + 1) 0 un 0 (by omega) (by omega) (un_0 hun) rfl
  · refine v_eqi 0 (bI_f c3) ?_
    refine v_iconst C 1 dX2_guiltyVotes_8 (by decide) ?_
    refine v_icmp_ne C 16 dX2_guiltyVotes_9 (by decide) (fun _ => ?_) (fun h => absurd h (by decide))
    refine v_iconst C 0 dX2_guiltyVotes_16 (by decide) ?_
    refine v_istore_n C [(3, .int 0), (0, .ref (a 4)), (1, .int (nI d)), (2, .int mi)] dX2_guiltyVotes_17 (by decide) rfl ?_
    refine v_aload_n C dX2_guiltyVotes_18 1 rfl ?_
    refine v_callRi C l_X2_95 (m_X2_voters a st nj ln (nI lw) ss (nI un) en se si ca la sw sk rd hnj hst) (by decide) dX2_guiltyVotes_19 [0, 2] rfl 0 rfl rfl rfl (rest := []) rfl (Nat.le_of_ble_eq_true rfl) (by decide) (fun r16 h17 => ?_)
    subst h17
    refine v_istore C [(4, .int (nI (mk (voB st) nj))), (3, .int 0), (0, .ref (a 4)), (1, .int (nI d)), (2, .int mi)] dX2_guiltyVotes_22 (by decide) rfl ?_
    refine v_iconst C 0 dX2_guiltyVotes_24 (by decide) ?_
    refine v_istore C [(5, .int 0), (4, .int (nI (mk (voB st) nj))), (3, .int 0), (0, .ref (a 4)), (1, .int (nI d)), (2, .int mi)] dX2_guiltyVotes_25 (by decide) rfl ?_
    refine v_iconst C 0 dX2_guiltyVotes_27 (by decide) ?_
    refine v_istore C [(6, .int 0), (5, .int 0), (4, .int (nI (mk (voB st) nj))), (3, .int 0), (0, .ref (a 4)), (1, .int (nI d)), (2, .int mi)] dX2_guiltyVotes_28 (by decide) rfl ?_
    have lp : ∀ (n_19 : Nat) (i : Nat) (u : Nat) (g : Nat), nj - i < n_19 → (i ≤ nj) → (u = mk (unBi tk un st i) nj) → (g = mk (gB tk ag un st (lw.testBit d) mi) i) → V zp l ze (rmOf 1 23) zs zm [.ref (a 4), .int (nI d), .int mi].toArray zb zt zc D (IM zA zs) (QMi zb [.ref (a 4), .int (nI d), .int mi].toArray zs D cI cB cS [oT a ln (nI lw) ss (nI st) (nI un) en se, ia (a 31) cI 5 tk, oK a si (nI nj) ca la sw sk rd, ia (a 21) cI 5 ag] zz (fun r w => r = nI (mk (gB tk ag un st (lw.testBit d) mi) nj) ∧ w = [oT a ln (nI lw) ss (nI st) (nI (unF nj tk un st)) en se, ia (a 31) cI 5 tk, oK a si (nI nj) ca la sw sk rd, ia (a 21) cI 5 ag])) 0 0 7 [oT a ln (nI lw) ss (nI st) (nI u) en se, ia (a 31) cI 5 tk, oK a si (nI nj) ca la sw sk rd, ia (a 21) cI 5 ag] [(6, .int (nI i)), (5, .int (nI g)), (4, .int (nI (mk (voB st) nj))), (3, .int 0), (0, .ref (a 4)), (1, .int (nI d)), (2, .int mi)] 30 [] := by
      intro n_19
      induction n_19 with
      | zero => intro i u g b18; exact absurd b18 (by omega)
      | succ n_19 ihn_19 =>
        intro i u g b18 hi hu hg
        refine v_iload C dX2_guiltyVotes_30 0 rfl ?_
        refine v_aload_n C dX2_guiltyVotes_32 4 rfl ?_
        refine v_get C f_X2_24 dX2_guiltyVotes_33 0 rfl rfl ?_
        refine v_get C f_X2_102 dX2_guiltyVotes_36 2 rfl rfl ?_
        refine v_icmp_ge C 79 dX2_guiltyVotes_39 (by decide) (fun c20 => ?_) (fun c20 => ?_)
        · have nc20 : nj ≤ i := nI_leD c20 (by omega)
          have hie : i = nj := by omega
          refine v_iload C dX2_guiltyVotes_79 1 rfl ?_
          exact v_reti C hA dX2_guiltyVotes_81 rfl (⟨by rw [hg, hie], by rw [hu, hie, un_end]⟩)
        · have nc20 : i < nj := nI_ltD c20 (by omega)
          have hin : i < nj := nc20
          refine v_iload C dX2_guiltyVotes_42 2 rfl ?_
          refine v_iload C dX2_guiltyVotes_44 0 rfl ?_
          refine v_callSi C l_X2_105 (m_X4_bitOf (mk (voB st) nj) i (by have := mk_lt (voB st) nj; omega) (by omega)) (by decide) dX2_guiltyVotes_46 [] rfl rfl (rest := []) rfl (Nat.le_of_ble_eq_true rfl) (by decide) (fun r21 h22 => ?_)
          subst h22
          by_cases c23 : (mk (voB st) nj).testBit i = true
          · refine v_eqi 1 (bI_t c23) ?_
            refine v_iconst C 1 dX2_guiltyVotes_49 (by decide) ?_
            refine v_icmp_ne C 73 dX2_guiltyVotes_50 (by decide) (fun h => absurd h (by decide)) (fun _ => ?_)
            refine v_aload_n C dX2_guiltyVotes_53 4 rfl ?_
            refine v_iload C dX2_guiltyVotes_54 0 rfl ?_
            refine v_iload_n C dX2_guiltyVotes_56 3 rfl ?_
            refine v_iload_n C dX2_guiltyVotes_57 6 rfl ?_
            refine v_callMi C l_X2_108 (m_X2_votesGuilty a u i ln (nI lw) ss (nI st) en se tk si (nI nj) ca la sw sk rd ag 0 mi (by omega) (by have := mk_lt (unBi tk un st i) nj; omega)) (by decide) dX2_guiltyVotes_58 [0, 1, 2, 3] [] (wr := []) (by decide) rfl rfl (by decide) (by decide) 0 rfl rfl rfl (rest := []) rfl (Nat.le_of_ble_eq_true rfl) (by decide) (fun r26 w24 h25 => ?_)
            obtain ⟨rfl, rfl⟩ := h25
            refine v_ws0 [oT a ln (nI lw) ss (nI st) (nI (if tk i = 2 ∧ u.testBit i = true then clr u i else u)) en se, ia (a 31) cI 5 tk, oK a si (nI nj) ca la sw sk rd, ia (a 21) cI 5 ag] rfl ?_
            by_cases c27 : ¬ (tk i = 2 ∧ u.testBit i = true) ∧ (¬ (0 : Int32) = 0 ∨ (tk i = 1 ∧ ¬ mi < 5 * ag i))
            · refine v_eqi 1 (bI_t c27) ?_
              refine v_if_eq C 73 dX2_guiltyVotes_61 (by decide) (fun h => absurd h (by decide)) (fun _ => ?_)
              refine v_iload C dX2_guiltyVotes_64 1 rfl ?_
              refine v_iconst C 1 dX2_guiltyVotes_66 (by decide) ?_
              refine v_iload C dX2_guiltyVotes_67 0 rfl ?_
              refine v_ishl C dX2_guiltyVotes_69 ?_
              refine v_ior C dX2_guiltyVotes_70 ?_
              refine v_eqi (nI (set1 g i)) (raw_set g (by have := mk_lt (gB tk ag un st (lw.testBit d) mi) i; have := Nat.pow_le_pow_right (n := 2) (by omega) (show i ≤ 5 by omega); omega) i (by omega)) ?_
              refine v_istore C [(5, .int (nI (set1 g i))), (6, .int (nI i)), (4, .int (nI (mk (voB st) nj))), (3, .int 0), (0, .ref (a 4)), (1, .int (nI d)), (2, .int mi)] dX2_guiltyVotes_71 (by decide) rfl ?_
              refine v_iinc C (nI (i + 1)) [(6, .int (nI (i + 1))), (5, .int (nI (set1 g i))), (4, .int (nI (mk (voB st) nj))), (3, .int 0), (0, .ref (a 4)), (1, .int (nI d)), (2, .int mi)] 1 dX2_guiltyVotes_73 rfl (nI_inc _) (by decide) rfl ?_
              refine v_goto C 30 dX2_guiltyVotes_76 (by decide) ?_
              have hv : voB st i = true := by have q := c23; rw [mk_bit] at q; simp [hin] at q; exact q
              have ht : (mk (unBi tk un st i) nj).testBit i = un.testBit i := un_at hin
              exact ihn_19 (i + 1) (if tk i = 2 ∧ u.testBit i = true then clr u i else u) (set1 g i) (by omega) (by omega) (by rw [hu]; exact un_vote hnj hin hv) (by rw [hg]; exact set1_mk (by omega) (by have q := c27; rw [hu, ht] at q; exact (gB_iff hv (by simp [c3])).mpr q))
            · refine v_eqi 0 (bI_f c27) ?_
              refine v_if_eq C 73 dX2_guiltyVotes_61 (by decide) (fun _ => ?_) (fun h => absurd h (by decide))
              refine v_iinc C (nI (i + 1)) [(6, .int (nI (i + 1))), (5, .int (nI g)), (4, .int (nI (mk (voB st) nj))), (3, .int 0), (0, .ref (a 4)), (1, .int (nI d)), (2, .int mi)] 0 dX2_guiltyVotes_73 rfl (nI_inc _) (by decide) rfl ?_
              refine v_goto C 30 dX2_guiltyVotes_76 (by decide) ?_
              have hv : voB st i = true := by have q := c23; rw [mk_bit] at q; simp [hin] at q; exact q
              have ht : (mk (unBi tk un st i) nj).testBit i = un.testBit i := un_at hin
              exact ihn_19 (i + 1) (if tk i = 2 ∧ u.testBit i = true then clr u i else u) g (by omega) (by omega) (by rw [hu]; exact un_vote hnj hin hv) (by rw [hg]; exact mk_skip (by have q := c27; rw [hu, ht] at q; exact gB_no hv (by simp [c3]) q))
          · refine v_eqi 0 (bI_f c23) ?_
            refine v_iconst C 1 dX2_guiltyVotes_49 (by decide) ?_
            refine v_icmp_ne C 73 dX2_guiltyVotes_50 (by decide) (fun _ => ?_) (fun h => absurd h (by decide))
            refine v_iinc C (nI (i + 1)) [(6, .int (nI (i + 1))), (5, .int (nI g)), (4, .int (nI (mk (voB st) nj))), (3, .int 0), (0, .ref (a 4)), (1, .int (nI d)), (2, .int mi)] 0 dX2_guiltyVotes_73 rfl (nI_inc _) (by decide) rfl ?_
            refine v_goto C 30 dX2_guiltyVotes_76 (by decide) ?_
            have hv : voB st i = false := by have q := c23; rw [mk_bit] at q; simp [hin] at q; exact q
            exact ihn_19 (i + 1) u g (by omega) (by omega) (by rw [hu]; exact un_keep (by simp [unB, hv])) (by rw [hg]; exact mk_skip (by simp [gB, hv]))
    exact lp (nj - 0 + 1) 0 un 0 (by omega) (by omega) (un_0 hun) rfl
