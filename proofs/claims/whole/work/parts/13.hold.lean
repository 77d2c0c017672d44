set_option maxHeartbeats 4000000 in
set_option maxRecDepth 100000 in
theorem m_X2_judge0 {l : Launch} {D : va_G} {cI cB cS : ClassId} (a : Nat → Nat) (c d : Nat) (ln : Int32) (lw : Int32) (ss : Int32) (sx : Int32) (un : Int32) (en : Int32) (se : Int32) (tk : Nat → Int32) (ve : Nat → Int32) (vd : Nat → Int32) (si : Int32) (ju : Int32) (ca : Int32) (la : Int32) (sw : Int32) (sk : Int32) (rd : Int32) (ag : Nat → Int32) (de : Nat → Int32) (we : Nat → Int32) (hc : c < 5) (hd : de c = nI d) (hd6 : d < 6) : Mv l yX2_judge cX2_judge 5 2 49 D cI cB cS [.ref (a 4), .int (nI c), .int 0] [oT a ln lw ss sx un en se, ia (a 31) cI 5 tk, ia (a 33) cI 5 ve, ia (a 34) cI 6 vd, oK a si ju ca la sw sk rd, ia (a 21) cI 5 ag, ia (a 22) cI 5 de, ia (a 24) cI 5 we] (fun w => w = [oT a ln lw ss sx un en (if vd d = 1 then se + we c else se), ia (a 31) cI 5 tk, ia (a 33) cI 5 (upd ve c (vd d)), ia (a 34) cI 6 vd, oK a si ju ca la sw sk rd, ia (a 21) cI 5 ag, ia (a 22) cI 5 de, ia (a 24) cI 5 we]) := by
  refine Mv.of (by decide) (Nat.le_of_ble_eq_true rfl) ?_
  intro zp ze zs zm zb zt zc zz zA hA C hnm
  refine v_lv0 [(0, .ref (a 4)), (1, .int (nI c)), (2, .int 0)] rfl ?_
  refine v_aload_n C dX2_judge_0 0 rfl ?_
  refine v_get C f_X2_24 dX2_judge_1 0 rfl rfl ?_
  refine v_get C f_X2_72 dX2_judge_4 4 rfl rfl ?_
  refine v_iload_n C dX2_judge_7 1 rfl ?_
  refine v_ialdN C dX2_judge_8 6 rfl c rfl (by omega) (by decide) ?_
  refine v_istore_n C [(3, .int (de c)), (0, .ref (a 4)), (1, .int (nI c)), (2, .int 0)] dX2_judge_9 (by decide) rfl ?_
  refine v_iload_n C dX2_judge_10 3 rfl ?_
  refine v_if_eq C 53 dX2_judge_11 (by decide) (fun _ => ?_) (fun h => absurd h (by decide))
  refine v_aload_n C dX2_judge_53 1 rfl ?_
  refine v_get C f_X2_18 dX2_judge_54 0 rfl rfl ?_
  refine v_iload_n C dX2_judge_57 2 rfl ?_
  refine v_aload_n C dX2_judge_58 1 rfl ?_
  refine v_get C f_X2_21 dX2_judge_59 0 rfl rfl ?_
  refine v_iload_n C dX2_judge_62 0 rfl ?_
  refine v_ialdN C dX2_judge_63 3 rfl d hd hd6 (by decide) ?_
  refine v_iastN C [oT a ln lw ss sx un en se, ia (a 31) cI 5 tk, ia (a 33) cI 5 (upd ve c (vd d)), ia (a 34) cI 6 vd, oK a si ju ca la sw sk rd, ia (a 21) cI 5 ag, ia (a 22) cI 5 de, ia (a 24) cI 5 we] dX2_judge_64 2 rfl c rfl (by omega) (by decide) rfl ?_
  refine v_aload_n C dX2_judge_65 1 rfl ?_
  refine v_get C f_X2_18 dX2_judge_66 0 rfl rfl ?_
  refine v_iload_n C dX2_judge_69 2 rfl ?_
  refine v_ialdN C dX2_judge_70 2 rfl c rfl (by omega) (by decide) ?_
  refine v_iconst C 1 dX2_judge_71 (by decide) ?_
  refine v_icmp_ne C 93 dX2_judge_72 (by decide) (fun c1 => ?_) (fun c1 => ?_)
  · rw [upd_at] at c1
    exact v_retv C hA dX2_judge_93 (by simp only [upd_at, *, ↓reduceIte])
  · rw [upd_at] at c1
    refine v_aload_n C dX2_judge_75 1 rfl ?_
    refine v_dup C dX2_judge_76 rfl ?_
    refine v_get C f_X2_69 dX2_judge_77 0 rfl rfl ?_
    refine v_aload_n C dX2_judge_80 1 rfl ?_
    refine v_get C f_X2_24 dX2_judge_81 0 rfl rfl ?_
    refine v_get C f_X2_99 dX2_judge_84 4 rfl rfl ?_
    refine v_iload_n C dX2_judge_87 2 rfl ?_
    refine v_ialdN C dX2_judge_88 7 rfl c rfl (by omega) (by decide) ?_
    refine v_iadd C dX2_judge_89 ?_
    refine v_put C p_X2_69 [oT a ln lw ss sx un en (se + (we c)), ia (a 31) cI 5 tk, ia (a 33) cI 5 (upd ve c (vd d)), ia (a 34) cI 6 vd, oK a si ju ca la sw sk rd, ia (a 21) cI 5 ag, ia (a 22) cI 5 de, ia (a 24) cI 5 we] dX2_judge_90 0 rfl rfl rfl (Nat.le_of_ble_eq_true rfl) rfl ?_
    exact v_retv C hA dX2_judge_93 (by simp only [upd_at, *, ↓reduceIte])
set_option maxHeartbeats 4000000 in
set_option maxRecDepth 100000 in
theorem m_X2_judge1 {l : Launch} {D : va_G} {cI cB cS : ClassId} (a : Nat → Nat) (c d un st lw nj : Nat) (ln : Int32) (ss : Int32) (en : Int32) (se : Int32) (tk : Nat → Int32) (ve : Nat → Int32) (vd : Nat → Int32) (si : Int32) (ca : Int32) (la : Int32) (sw : Int32) (sk : Int32) (rd : Int32) (ag : Nat → Int32) (de : Nat → Int32) (we : Nat → Int32) (hc : c < 5) (hd : de c = nI d) (hd6 : d < 6) (hnj : nj ≤ 5) (hun : un < 2 ^ nj) (hst : st < 32) (hlw : lw < 64) (hp5 : 2 ^ nj ≤ 32) : Mv l yX2_judge cX2_judge 5 2 49 D cI cB cS [.ref (a 4), .int (nI c), .int 1] [oT a ln (nI lw) ss (nI st) (nI un) en se, ia (a 31) cI 5 tk, ia (a 33) cI 5 ve, ia (a 34) cI 6 vd, oK a si (nI nj) ca la sw sk rd, ia (a 21) cI 5 ag, ia (a 22) cI 5 de, ia (a 24) cI 5 we] (fun w => w = [oT a ln (nI lw) ss (nI st) (nI (unF nj tk un st)) en (if vdF nj tk ag un st (lw.testBit d) en = 1 then se + we c else se), ia (a 31) cI 5 tk, ia (a 33) cI 5 (upd ve c (vdF nj tk ag un st (lw.testBit d) en)), ia (a 34) cI 6 (upd vd d (vdF nj tk ag un st (lw.testBit d) en)), oK a si (nI nj) ca la sw sk rd, ia (a 21) cI 5 ag, ia (a 22) cI 5 de, ia (a 24) cI 5 we]) := by
  refine Mv.of (by decide) (Nat.le_of_ble_eq_true rfl) ?_
  intro zp ze zs zm zb zt zc zz zA hA C hnm
  refine v_lv0 [(0, .ref (a 4)), (1, .int (nI c)), (2, .int 1)] rfl ?_
  refine v_aload_n C dX2_judge_0 0 rfl ?_
  refine v_get C f_X2_24 dX2_judge_1 0 rfl rfl ?_
  refine v_get C f_X2_72 dX2_judge_4 4 rfl rfl ?_
  refine v_iload_n C dX2_judge_7 1 rfl ?_
  refine v_ialdN C dX2_judge_8 6 rfl c rfl (by omega) (by decide) ?_
  refine v_eqi (nI d) (hd) ?_
  refine v_istore_n C [(3, .int (nI d)), (0, .ref (a 4)), (1, .int (nI c)), (2, .int 1)] dX2_judge_9 (by decide) rfl ?_
  refine v_iload_n C dX2_judge_10 3 rfl ?_
  refine v_if_eq C 53 dX2_judge_11 (by decide) (fun h => absurd h (by decide)) (fun _ => ?_)
  refine v_aload_n C dX2_judge_14 1 rfl ?_
  refine v_iload_n C dX2_judge_15 0 rfl ?_
  refine v_aload_n C dX2_judge_16 1 rfl ?_
  refine v_get C f_X2_66 dX2_judge_17 0 rfl rfl ?_
  refine v_callMi C l_X2_85 (m_X2_guiltyVotes a d un st lw nj ln ss en se tk si ca la sw sk rd ag en hnj hun hst hlw hd6 hp5) (by decide) dX2_judge_20 [0, 1, 4, 5] [2, 3, 6, 7] (wr := [ia (a 33) cI 5 ve, ia (a 34) cI 6 vd, ia (a 22) cI 5 de, ia (a 24) cI 5 we]) (by decide) rfl rfl (by decide) (by decide) 0 rfl rfl rfl (rest := []) rfl (Nat.le_of_ble_eq_true rfl) (by decide) (fun r3 w1 h2 => ?_)
  obtain ⟨rfl, rfl⟩ := h2
  refine v_ws0 [ia (a 33) cI 5 ve, ia (a 34) cI 6 vd, ia (a 22) cI 5 de, ia (a 24) cI 5 we, oT a ln (nI lw) ss (nI st) (nI (unF nj tk un st)) en se, ia (a 31) cI 5 tk, oK a si (nI nj) ca la sw sk rd, ia (a 21) cI 5 ag] rfl ?_
  refine v_callSi C l_X2_89 (m_J6_bitCount_0f7a4 (nI (mk (gB tk ag un st (lw.testBit d) en) nj))) (by decide) dX2_judge_23 [] rfl rfl (rest := []) rfl (Nat.le_of_ble_eq_true rfl) (by decide) (fun r4 h5 => ?_)
  subst h5
  refine v_eqi (nI (ct (gB tk ag un st (lw.testBit d) en) nj)) (by rw [raw_bc _ (by have := mk_lt (gB tk ag un st (lw.testBit d) en) nj; omega), pcN_mk _ (by omega)]) ?_
  refine v_istore C [(4, .int (nI (ct (gB tk ag un st (lw.testBit d) en) nj))), (3, .int (nI d)), (0, .ref (a 4)), (1, .int (nI c)), (2, .int 1)] dX2_judge_26 (by decide) rfl ?_
  refine v_aload_n C dX2_judge_28 2 rfl ?_
  refine v_get C f_X2_21 dX2_judge_29 4 rfl rfl ?_
  refine v_iload_n C dX2_judge_32 1 rfl ?_
  refine v_iconst C 2 dX2_judge_33 (by decide) ?_
  refine v_iload C dX2_judge_34 0 rfl ?_
  refine v_imul C dX2_judge_36 ?_
  refine v_eqi (nI (2 * ct (gB tk ag un st (lw.testBit d) en) nj)) (pk_mul 2 _) ?_
  refine v_aload_n C dX2_judge_37 2 rfl ?_
  refine v_callRi C l_X2_95 (m_X2_voters a st nj ln (nI lw) ss (nI (unF nj tk un st)) en se si ca la sw sk rd hnj hst) (by decide) dX2_judge_38 [4, 6] rfl 4 rfl rfl rfl (rest := [.int (nI (2 * ct (gB tk ag un st (lw.testBit d) en) nj)), .int (nI d), .ref (a 34)]) rfl (Nat.le_of_ble_eq_true rfl) (by decide) (fun r6 h7 => ?_)
  subst h7
  refine v_callSi C l_X2_89 (m_J6_bitCount_0f7a4 (nI (mk (voB st) nj))) (by decide) dX2_judge_41 [] rfl rfl (rest := [.int (nI (2 * ct (gB tk ag un st (lw.testBit d) en) nj)), .int (nI d), .ref (a 34)]) rfl (Nat.le_of_ble_eq_true rfl) (by decide) (fun r8 h9 => ?_)
  subst h9
  refine v_eqi (nI (ct (voB st) nj)) (by rw [raw_bc _ (by have := mk_lt (voB st) nj; omega), pcN_mk _ (by omega)]) ?_
  have q1 := ct_le (gB tk ag un st (lw.testBit d) en) nj
  have q2 := ct_le (voB st) nj
  refine v_icmp_le C 51 dX2_judge_44 (by decide) (fun c10 => ?_) (fun c10 => ?_)
  · have nc10 : (2 * ct (gB tk ag un st (lw.testBit d) en) nj) ≤ (ct (voB st) nj) := nI_leD c10 (by omega)
    have hv : vdF nj tk ag un st (lw.testBit d) en = 0 := if_neg (by omega)
    refine v_iconst C 0 dX2_judge_51 (by decide) ?_
    refine v_iastN C [ia (a 33) cI 5 ve, ia (a 34) cI 6 (upd vd d 0), ia (a 22) cI 5 de, ia (a 24) cI 5 we, oT a ln (nI lw) ss (nI st) (nI (unF nj tk un st)) en se, ia (a 31) cI 5 tk, oK a si (nI nj) ca la sw sk rd, ia (a 21) cI 5 ag] dX2_judge_52 1 rfl d rfl (by omega) (by decide) rfl ?_
    refine v_aload_n C dX2_judge_53 2 rfl ?_
    refine v_get C f_X2_18 dX2_judge_54 4 rfl rfl ?_
    refine v_iload_n C dX2_judge_57 3 rfl ?_
    refine v_aload_n C dX2_judge_58 2 rfl ?_
    refine v_get C f_X2_21 dX2_judge_59 4 rfl rfl ?_
    refine v_iload_n C dX2_judge_62 1 rfl ?_
    refine v_ialdN C dX2_judge_63 1 rfl d rfl (by omega) (by decide) ?_
    refine v_iastN C [ia (a 33) cI 5 (upd ve c ((upd vd d 0) d)), ia (a 34) cI 6 (upd vd d 0), ia (a 22) cI 5 de, ia (a 24) cI 5 we, oT a ln (nI lw) ss (nI st) (nI (unF nj tk un st)) en se, ia (a 31) cI 5 tk, oK a si (nI nj) ca la sw sk rd, ia (a 21) cI 5 ag] dX2_judge_64 0 rfl c rfl (by omega) (by decide) rfl ?_
    refine v_aload_n C dX2_judge_65 2 rfl ?_
    refine v_get C f_X2_18 dX2_judge_66 4 rfl rfl ?_
    refine v_iload_n C dX2_judge_69 3 rfl ?_
    refine v_ialdN C dX2_judge_70 0 rfl c rfl (by omega) (by decide) ?_
    refine v_iconst C 1 dX2_judge_71 (by decide) ?_
    refine v_icmp_ne C 93 dX2_judge_72 (by decide) (fun c11 => ?_) (fun c11 => ?_)
    · rw [upd_at, upd_at] at c11
      refine v_perm (ws' := [oT a ln (nI lw) ss (nI st) (nI (unF nj tk un st)) en se, ia (a 31) cI 5 tk, ia (a 33) cI 5 (upd ve c ((upd vd d 0) d)), ia (a 34) cI 6 (upd vd d 0), oK a si (nI nj) ca la sw sk rd, ia (a 21) cI 5 ag, ia (a 22) cI 5 de, ia (a 24) cI 5 we]) [4, 5, 0, 1, 6, 7, 2, 3] (by decide) rfl ?_
      exact v_retv C hA dX2_judge_93 (by first | (simp only [hv, upd_at, ↓reduceIte]; done) | (simp [hv, upd_at]; done))
    · rw [upd_at, upd_at] at c11
      exact absurd c11 (by decide)
  · have nc10 : (ct (voB st) nj) < (2 * ct (gB tk ag un st (lw.testBit d) en) nj) := nI_ltD c10 (by omega)
    have hv : vdF nj tk ag un st (lw.testBit d) en = 1 := if_pos (by omega)
    refine v_iconst C 1 dX2_judge_47 (by decide) ?_
    refine v_goto C 52 dX2_judge_48 (by decide) ?_
    refine v_iastN C [ia (a 33) cI 5 ve, ia (a 34) cI 6 (upd vd d 1), ia (a 22) cI 5 de, ia (a 24) cI 5 we, oT a ln (nI lw) ss (nI st) (nI (unF nj tk un st)) en se, ia (a 31) cI 5 tk, oK a si (nI nj) ca la sw sk rd, ia (a 21) cI 5 ag] dX2_judge_52 1 rfl d rfl (by omega) (by decide) rfl ?_
    refine v_aload_n C dX2_judge_53 2 rfl ?_
    refine v_get C f_X2_18 dX2_judge_54 4 rfl rfl ?_
    refine v_iload_n C dX2_judge_57 3 rfl ?_
    refine v_aload_n C dX2_judge_58 2 rfl ?_
    refine v_get C f_X2_21 dX2_judge_59 4 rfl rfl ?_
    refine v_iload_n C dX2_judge_62 1 rfl ?_
    refine v_ialdN C dX2_judge_63 1 rfl d rfl (by omega) (by decide) ?_
    refine v_iastN C [ia (a 33) cI 5 (upd ve c ((upd vd d 1) d)), ia (a 34) cI 6 (upd vd d 1), ia (a 22) cI 5 de, ia (a 24) cI 5 we, oT a ln (nI lw) ss (nI st) (nI (unF nj tk un st)) en se, ia (a 31) cI 5 tk, oK a si (nI nj) ca la sw sk rd, ia (a 21) cI 5 ag] dX2_judge_64 0 rfl c rfl (by omega) (by decide) rfl ?_
    refine v_aload_n C dX2_judge_65 2 rfl ?_
    refine v_get C f_X2_18 dX2_judge_66 4 rfl rfl ?_
    refine v_iload_n C dX2_judge_69 3 rfl ?_
    refine v_ialdN C dX2_judge_70 0 rfl c rfl (by omega) (by decide) ?_
    refine v_iconst C 1 dX2_judge_71 (by decide) ?_
    refine v_icmp_ne C 93 dX2_judge_72 (by decide) (fun c12 => ?_) (fun c12 => ?_)
    · rw [upd_at, upd_at] at c12
      exact absurd c12 (by decide)
    · rw [upd_at, upd_at] at c12
      refine v_aload_n C dX2_judge_75 2 rfl ?_
      refine v_dup C dX2_judge_76 rfl ?_
      refine v_get C f_X2_69 dX2_judge_77 4 rfl rfl ?_
      refine v_aload_n C dX2_judge_80 2 rfl ?_
      refine v_get C f_X2_24 dX2_judge_81 4 rfl rfl ?_
      refine v_get C f_X2_99 dX2_judge_84 6 rfl rfl ?_
      refine v_iload_n C dX2_judge_87 3 rfl ?_
      refine v_ialdN C dX2_judge_88 3 rfl c rfl (by omega) (by decide) ?_
      refine v_iadd C dX2_judge_89 ?_
      refine v_put C p_X2_69 [ia (a 33) cI 5 (upd ve c ((upd vd d 1) d)), ia (a 34) cI 6 (upd vd d 1), ia (a 22) cI 5 de, ia (a 24) cI 5 we, oT a ln (nI lw) ss (nI st) (nI (unF nj tk un st)) en (se + (we c)), ia (a 31) cI 5 tk, oK a si (nI nj) ca la sw sk rd, ia (a 21) cI 5 ag] dX2_judge_90 4 rfl rfl rfl (Nat.le_of_ble_eq_true rfl) rfl ?_
      refine v_perm (ws' := [oT a ln (nI lw) ss (nI st) (nI (unF nj tk un st)) en (se + (we c)), ia (a 31) cI 5 tk, ia (a 33) cI 5 (upd ve c ((upd vd d 1) d)), ia (a 34) cI 6 (upd vd d 1), oK a si (nI nj) ca la sw sk rd, ia (a 21) cI 5 ag, ia (a 22) cI 5 de, ia (a 24) cI 5 we]) [4, 5, 0, 1, 6, 7, 2, 3] (by decide) rfl ?_
      exact v_retv C hA dX2_judge_93 (by first | (simp only [hv, upd_at, ↓reduceIte]; done) | (simp [hv, upd_at]; done))
set_option maxHeartbeats 4000000 in
set_option maxRecDepth 100000 in
theorem m_X2_hold {l : Launch} {D : va_G} {cI cB cS : ClassId} (a : Nat → Nat) (s0 st lw nj L nc : Nat) (o dn : Nat → Nat) (un : Int32) (en : Int32) (se : Int32) (tk : Nat → Int32) (od : Nat → Int32) (ve : Nat → Int32) (vd : Nat → Int32) (si : Int32) (ca : Int32) (la : Int32) (sw : Int32) (sk : Int32) (rd : Int32) (ag : Nat → Int32) (de : Nat → Int32) (ta : Nat → Int32) (we : Nat → Int32) (hnj : nj ≤ 5) (hst : st < 32) (hlw : lw < 64) (hp5 : 2 ^ nj ≤ 32) (hs0 : s0 < 2 ^ nj) (hL : L ≤ 5) (hnc : nc ≤ 5) (ho : ∀ p, p < L → od p = nI (o p) ∧ o p < nc) (hde : ∀ c, c < nc → de c = nI (dn c) ∧ dn c < 6) : Mv l yX2_hold cX2_hold 6 3 73 D cI cB cS [.ref (a 4)] [oT a (nI L) (nI lw) (nI s0) (nI st) un en se, ia (a 31) cI 5 tk, ia (a 32) cI 5 od, ia (a 33) cI 5 ve, ia (a 34) cI 6 vd, oK a si (nI nj) ca la sw sk rd, ia (a 21) cI 5 ag, ia (a 22) cI 5 de, ia (a 23) cI 5 ta, ia (a 24) cI 5 we] (fun w => w = [oT a (nI L) (nI lw) (nI s0) (nI st) (nI (sitS nj tk ag st lw dn ta we si s0 o L).2.2.1) ((sitS nj tk ag st lw dn ta we si s0 o L).2.2.2.1) ((sitS nj tk ag st lw dn ta we si s0 o L).2.2.2.2.1), ia (a 31) cI 5 tk, ia (a 32) cI 5 od, ia (a 33) cI 5 ((sitS nj tk ag st lw dn ta we si s0 o L).1), ia (a 34) cI 6 ((sitS nj tk ag st lw dn ta we si s0 o L).2.1), oK a si (nI nj) ca la sw sk rd, ia (a 21) cI 5 ag, ia (a 22) cI 5 de, ia (a 23) cI 5 ta, ia (a 24) cI 5 we]) := by
  refine Mv.of (by decide) (Nat.le_of_ble_eq_true rfl) ?_
  intro zp ze zs zm zb zt zc zz zA hA C hnm
  refine v_lv0 [(0, .ref (a 4))] rfl ?_
  refine v_aload_n C dX2_hold_0 0 rfl ?_
  refine v_get C f_X2_18 dX2_hold_1 0 rfl rfl ?_
  refine v_bipush C (-9) dX2_hold_4 (by decide) ?_
  refine v_callSv C l_X2_60 (m_J7_fill_53178 (a 33) 5 ve (-9) (by decide)) (by decide) dX2_hold_6 [3] [0, 1, 2, 4, 5, 6, 7, 8, 9] (wr := [oT a (nI L) (nI lw) (nI s0) (nI st) un en se, ia (a 31) cI 5 tk, ia (a 32) cI 5 od, ia (a 34) cI 6 vd, oK a si (nI nj) ca la sw sk rd, ia (a 21) cI 5 ag, ia (a 22) cI 5 de, ia (a 23) cI 5 ta, ia (a 24) cI 5 we]) (by decide) rfl rfl (by decide) (by decide) rfl (rest := []) rfl (Nat.le_of_ble_eq_true rfl) (by decide) (fun w1 h2 => ?_)
  subst h2
  refine v_ws0 [oT a (nI L) (nI lw) (nI s0) (nI st) un en se, ia (a 31) cI 5 tk, ia (a 32) cI 5 od, ia (a 34) cI 6 vd, oK a si (nI nj) ca la sw sk rd, ia (a 21) cI 5 ag, ia (a 22) cI 5 de, ia (a 23) cI 5 ta, ia (a 24) cI 5 we, ia (a 33) cI 5 (fun _ => (-9 : Int32))] rfl ?_
  refine v_aload_n C dX2_hold_9 0 rfl ?_
  refine v_get C f_X2_21 dX2_hold_10 0 rfl rfl ?_
  refine v_bipush C (-9) dX2_hold_13 (by decide) ?_
  refine v_callSv C l_X2_60 (m_J7_fill_53178 (a 34) 6 vd (-9) (by decide)) (by decide) dX2_hold_15 [3] [0, 1, 2, 4, 5, 6, 7, 8, 9] (wr := [oT a (nI L) (nI lw) (nI s0) (nI st) un en se, ia (a 31) cI 5 tk, ia (a 32) cI 5 od, oK a si (nI nj) ca la sw sk rd, ia (a 21) cI 5 ag, ia (a 22) cI 5 de, ia (a 23) cI 5 ta, ia (a 24) cI 5 we, ia (a 33) cI 5 (fun _ => (-9 : Int32))]) (by decide) rfl rfl (by decide) (by decide) rfl (rest := []) rfl (Nat.le_of_ble_eq_true rfl) (by decide) (fun w4 h5 => ?_)
  subst h5
  refine v_ws0 [oT a (nI L) (nI lw) (nI s0) (nI st) un en se, ia (a 31) cI 5 tk, ia (a 32) cI 5 od, oK a si (nI nj) ca la sw sk rd, ia (a 21) cI 5 ag, ia (a 22) cI 5 de, ia (a 23) cI 5 ta, ia (a 24) cI 5 we, ia (a 33) cI 5 (fun _ => (-9 : Int32)), ia (a 34) cI 6 (fun _ => (-9 : Int32))] rfl ?_
  refine v_aload_n C dX2_hold_18 0 rfl ?_
  refine v_aload_n C dX2_hold_19 0 rfl ?_
  refine v_get C f_X2_45 dX2_hold_20 0 rfl rfl ?_
  refine v_put C p_X2_50 [oT a (nI L) (nI lw) (nI s0) (nI st) (nI s0) en se, ia (a 31) cI 5 tk, ia (a 32) cI 5 od, oK a si (nI nj) ca la sw sk rd, ia (a 21) cI 5 ag, ia (a 22) cI 5 de, ia (a 23) cI 5 ta, ia (a 24) cI 5 we, ia (a 33) cI 5 (fun _ => (-9 : Int32)), ia (a 34) cI 6 (fun _ => (-9 : Int32))] dX2_hold_23 0 rfl rfl rfl (Nat.le_of_ble_eq_true rfl) rfl ?_
  refine v_aload_n C dX2_hold_26 0 rfl ?_
  refine v_iconst C 0 dX2_hold_27 (by decide) ?_
  refine v_put C p_X2_66 [oT a (nI L) (nI lw) (nI s0) (nI st) (nI s0) 0 se, ia (a 31) cI 5 tk, ia (a 32) cI 5 od, oK a si (nI nj) ca la sw sk rd, ia (a 21) cI 5 ag, ia (a 22) cI 5 de, ia (a 23) cI 5 ta, ia (a 24) cI 5 we, ia (a 33) cI 5 (fun _ => (-9 : Int32)), ia (a 34) cI 6 (fun _ => (-9 : Int32))] dX2_hold_28 0 rfl rfl rfl (Nat.le_of_ble_eq_true rfl) rfl ?_
  refine v_aload_n C dX2_hold_31 0 rfl ?_
  refine v_iconst C 0 dX2_hold_32 (by decide) ?_
  refine v_put C p_X2_69 [oT a (nI L) (nI lw) (nI s0) (nI st) (nI s0) 0 0, ia (a 31) cI 5 tk, ia (a 32) cI 5 od, oK a si (nI nj) ca la sw sk rd, ia (a 21) cI 5 ag, ia (a 22) cI 5 de, ia (a 23) cI 5 ta, ia (a 24) cI 5 we, ia (a 33) cI 5 (fun _ => (-9 : Int32)), ia (a 34) cI 6 (fun _ => (-9 : Int32))] dX2_hold_33 0 rfl rfl rfl (Nat.le_of_ble_eq_true rfl) rfl ?_
  refine v_iconst C 0 dX2_hold_36 (by decide) ?_
  refine v_istore_n C [(1, .int 0), (0, .ref (a 4))] dX2_hold_37 (by decide) rfl ?_
  refine v_iconst C 0 dX2_hold_38 (by decide) ?_
  refine v_istore_n C [(2, .int 0), (1, .int 0), (0, .ref (a 4))] dX2_hold_39 (by decide) rfl ?_
  have lp : ∀ (n_8 : Nat) (p : Nat) (v1 : Nat → Int32) (d1 : Nat → Int32) (u : Nat) (e1 : Int32) (f1 : Int32) (hm : Int32), L - p < n_8 → (p ≤ L) → (sitS nj tk ag st lw dn ta we si s0 o p = (v1, d1, u, e1, f1, decide (¬ hm = 0))) → V zp l ze (rmOf 3 73) zs zm [.ref (a 4)].toArray zb zt zc D (IM zA zs) (QMv zb [.ref (a 4)].toArray zs D cI cB cS [oT a (nI L) (nI lw) (nI s0) (nI st) un en se, ia (a 31) cI 5 tk, ia (a 32) cI 5 od, ia (a 33) cI 5 ve, ia (a 34) cI 6 vd, oK a si (nI nj) ca la sw sk rd, ia (a 21) cI 5 ag, ia (a 22) cI 5 de, ia (a 23) cI 5 ta, ia (a 24) cI 5 we] zz (fun w => w = [oT a (nI L) (nI lw) (nI s0) (nI st) (nI (sitS nj tk ag st lw dn ta we si s0 o L).2.2.1) ((sitS nj tk ag st lw dn ta we si s0 o L).2.2.2.1) ((sitS nj tk ag st lw dn ta we si s0 o L).2.2.2.2.1), ia (a 31) cI 5 tk, ia (a 32) cI 5 od, ia (a 33) cI 5 ((sitS nj tk ag st lw dn ta we si s0 o L).1), ia (a 34) cI 6 ((sitS nj tk ag st lw dn ta we si s0 o L).2.1), oK a si (nI nj) ca la sw sk rd, ia (a 21) cI 5 ag, ia (a 22) cI 5 de, ia (a 23) cI 5 ta, ia (a 24) cI 5 we])) 0 0 6 [oT a (nI L) (nI lw) (nI s0) (nI st) (nI u) e1 f1, ia (a 31) cI 5 tk, ia (a 32) cI 5 od, ia (a 33) cI 5 v1, ia (a 34) cI 6 d1, oK a si (nI nj) ca la sw sk rd, ia (a 21) cI 5 ag, ia (a 22) cI 5 de, ia (a 23) cI 5 ta, ia (a 24) cI 5 we] [(2, .int (nI p)), (1, .int hm), (0, .ref (a 4))] 40 [] := by
    intro n_8
    induction n_8 with
    | zero => intro p v1 d1 u e1 f1 hm b7; exact absurd b7 (by omega)
    | succ n_8 ihn_8 =>
      intro p v1 d1 u e1 f1 hm b7 hp hs
      refine v_iload_n C dX2_hold_40 0 rfl ?_
      refine v_aload_n C dX2_hold_41 2 rfl ?_
      refine v_get C f_X2_53 dX2_hold_42 0 rfl rfl ?_
      refine v_icmp_ge C 161 dX2_hold_45 (by decide) (fun c9 => ?_) (fun c9 => ?_)
      · have nc9 : L ≤ p := nI_leD c9 (by omega)
        have hpe : p = L := by omega
        exact v_retv C hA dX2_hold_161 (by subst hpe; rw [hs])
      · have nc9 : p < L := nI_ltD c9 (by omega)
        have hin : p < L := nc9
        have hop := (ho p hin).2
        have hun : u < 2 ^ nj := by have q := sit_un (tk := tk) (ag := ag) (st := st) (lw := lw) (dn := dn) (ta := ta) (we := we) (si := si) (o := o) hs0 p; rw [hs] at q; exact q
        refine v_aload_n C dX2_hold_48 2 rfl ?_
        refine v_get C f_X2_15 dX2_hold_49 0 rfl rfl ?_
        refine v_iload_n C dX2_hold_52 0 rfl ?_
        refine v_ialdN C dX2_hold_53 2 rfl p rfl (by omega) (by decide) ?_
        refine v_eqi (nI (o p)) ((ho p hin).1) ?_
        refine v_istore_n C [(3, .int (nI (o p))), (2, .int (nI p)), (1, .int hm), (0, .ref (a 4))] dX2_hold_54 (by decide) rfl ?_
        refine v_aload_n C dX2_hold_55 3 rfl ?_
        refine v_get C f_X2_21 dX2_hold_56 0 rfl rfl ?_
        refine v_aload_n C dX2_hold_59 3 rfl ?_
        refine v_get C f_X2_24 dX2_hold_60 0 rfl rfl ?_
        refine v_get C f_X2_72 dX2_hold_63 5 rfl rfl ?_
        refine v_iload_n C dX2_hold_66 0 rfl ?_
        refine v_ialdN C dX2_hold_67 7 rfl (o p) rfl (by omega) (by decide) ?_
        refine v_ialdN C dX2_hold_68 4 rfl (dn (o p)) (hde (o p) hop).1 (hde (o p) hop).2 (by decide) ?_
        refine v_bipush C (-9) dX2_hold_69 (by decide) ?_
        refine v_icmp_ne C 78 dX2_hold_71 (by decide) (fun c10 => ?_) (fun c10 => ?_)
        · refine v_iconst C 0 dX2_hold_78 (by decide) ?_
          refine v_istore C [(4, .int 0), (3, .int (nI (o p))), (2, .int (nI p)), (1, .int hm), (0, .ref (a 4))] dX2_hold_79 (by decide) rfl ?_
          refine v_aload_n C dX2_hold_81 4 rfl ?_
          refine v_get C f_X2_66 dX2_hold_82 0 rfl rfl ?_
          refine v_iload C dX2_hold_85 0 rfl ?_
          refine v_if_eq C 102 dX2_hold_87 (by decide) (fun _ => ?_) (fun h => absurd h (by decide))
          refine v_iconst C 1 dX2_hold_102 (by decide) ?_
          refine v_iadd C dX2_hold_103 ?_
          refine v_istore C [(5, .int (e1 + 1)), (4, .int 0), (3, .int (nI (o p))), (2, .int (nI p)), (1, .int hm), (0, .ref (a 4))] dX2_hold_104 (by decide) rfl ?_
          refine v_iload_n C dX2_hold_106 4 rfl ?_
          refine v_if_ne C 122 dX2_hold_107 (by decide) (fun c11 => ?_) (fun c11 => ?_)
          · refine v_iconst C 1 dX2_hold_122 (by decide) ?_
            refine v_goto C 127 dX2_hold_123 (by decide) ?_
            refine v_istore_n C [(1, .int 1), (5, .int (e1 + 1)), (4, .int 0), (3, .int (nI (o p))), (2, .int (nI p)), (0, .ref (a 4))] dX2_hold_127 (by decide) rfl ?_
            refine v_iload_n C dX2_hold_128 0 rfl ?_
            refine v_if_eq C 142 dX2_hold_129 (by decide) (fun h => absurd h (by decide)) (fun _ => ?_)
            refine v_aload_n C dX2_hold_132 5 rfl ?_
            refine v_get C f_X2_18 dX2_hold_133 0 rfl rfl ?_
            refine v_iload_n C dX2_hold_136 3 rfl ?_
            refine v_iconst C 2 dX2_hold_137 (by decide) ?_
            refine v_iastN C [oT a (nI L) (nI lw) (nI s0) (nI st) (nI u) e1 f1, ia (a 31) cI 5 tk, ia (a 32) cI 5 od, ia (a 33) cI 5 (upd v1 (o p) 2), ia (a 34) cI 6 d1, oK a si (nI nj) ca la sw sk rd, ia (a 21) cI 5 ag, ia (a 22) cI 5 de, ia (a 23) cI 5 ta, ia (a 24) cI 5 we] dX2_hold_138 3 rfl (o p) rfl (by omega) (by decide) rfl ?_
            refine v_goto C 155 dX2_hold_139 (by decide) ?_
            refine v_iinc C (nI (p + 1)) [(2, .int (nI (p + 1))), (1, .int 1), (5, .int (e1 + 1)), (4, .int 0), (3, .int (nI (o p))), (0, .ref (a 4))] 4 dX2_hold_155 rfl (nI_inc _) (by decide) rfl ?_
            refine v_goto C 40 dX2_hold_158 (by decide) ?_
            refine v_loc [0, 1, 5] (lv' := [(2, .int (nI (p + 1))), (1, .int 1), (0, .ref (a 4))]) rfl ?_
            exact ihn_8 (p + 1) (upd v1 (o p) 2) d1 u e1 f1 1 (by omega) (by omega) (by rw [sitS, hs]; simp [sitStep, c10, c11])
          · refine v_iload C dX2_hold_110 0 rfl ?_
            refine v_aload_n C dX2_hold_112 5 rfl ?_
            refine v_get C f_X2_24 dX2_hold_113 0 rfl rfl ?_
            refine v_get C f_X2_78 dX2_hold_116 5 rfl rfl ?_
            refine v_icmp_le C 126 dX2_hold_119 (by decide) (fun c12 => ?_) (fun c12 => ?_)
            · refine v_iconst C 0 dX2_hold_126 (by decide) ?_
              refine v_istore_n C [(1, .int 0), (5, .int (e1 + 1)), (4, .int 0), (3, .int (nI (o p))), (2, .int (nI p)), (0, .ref (a 4))] dX2_hold_127 (by decide) rfl ?_
              refine v_iload_n C dX2_hold_128 0 rfl ?_
              refine v_if_eq C 142 dX2_hold_129 (by decide) (fun _ => ?_) (fun h => absurd h (by decide))
              refine v_aload_n C dX2_hold_142 5 rfl ?_
              refine v_iload C dX2_hold_143 1 rfl ?_
              refine v_put C p_X2_66 [oT a (nI L) (nI lw) (nI s0) (nI st) (nI u) (e1 + 1) f1, ia (a 31) cI 5 tk, ia (a 32) cI 5 od, ia (a 33) cI 5 v1, ia (a 34) cI 6 d1, oK a si (nI nj) ca la sw sk rd, ia (a 21) cI 5 ag, ia (a 22) cI 5 de, ia (a 23) cI 5 ta, ia (a 24) cI 5 we] dX2_hold_145 0 rfl rfl rfl (Nat.le_of_ble_eq_true rfl) rfl ?_
              refine v_aload_n C dX2_hold_148 5 rfl ?_
              refine v_iload_n C dX2_hold_149 3 rfl ?_
              refine v_iload C dX2_hold_150 2 rfl ?_
              refine v_callMv C l_X2_81 (m_X2_judge0 a (o p) (dn (o p)) (nI L) (nI lw) (nI s0) (nI st) (nI u) (e1 + 1) f1 tk v1 d1 si (nI nj) ca la sw sk rd ag de we (by omega) (hde (o p) hop).1 (hde (o p) hop).2) (by decide) dX2_hold_152 [0, 1, 3, 4, 5, 6, 7, 9] [2, 8] (wr := [ia (a 32) cI 5 od, ia (a 23) cI 5 ta]) (by decide) rfl rfl (by decide) (by decide) 0 rfl rfl rfl (rest := []) rfl (Nat.le_of_ble_eq_true rfl) (by decide) (fun w13 h14 => ?_)
              subst h14
              refine v_ws0 [ia (a 32) cI 5 od, ia (a 23) cI 5 ta, oT a (nI L) (nI lw) (nI s0) (nI st) (nI u) (e1 + 1) (if d1 (dn (o p)) = 1 then f1 + we (o p) else f1), ia (a 31) cI 5 tk, ia (a 33) cI 5 (upd v1 (o p) (d1 (dn (o p)))), ia (a 34) cI 6 d1, oK a si (nI nj) ca la sw sk rd, ia (a 21) cI 5 ag, ia (a 22) cI 5 de, ia (a 24) cI 5 we] rfl ?_
              refine v_iinc C (nI (p + 1)) [(2, .int (nI (p + 1))), (1, .int 0), (5, .int (e1 + 1)), (4, .int 0), (3, .int (nI (o p))), (0, .ref (a 4))] 4 dX2_hold_155 rfl (nI_inc _) (by decide) rfl ?_
              refine v_goto C 40 dX2_hold_158 (by decide) ?_
              refine v_perm (ws' := [oT a (nI L) (nI lw) (nI s0) (nI st) (nI u) (e1 + 1) (if d1 (dn (o p)) = 1 then f1 + we (o p) else f1), ia (a 31) cI 5 tk, ia (a 32) cI 5 od, ia (a 33) cI 5 (upd v1 (o p) (d1 (dn (o p)))), ia (a 34) cI 6 d1, oK a si (nI nj) ca la sw sk rd, ia (a 21) cI 5 ag, ia (a 22) cI 5 de, ia (a 23) cI 5 ta, ia (a 24) cI 5 we]) [2, 3, 0, 4, 5, 6, 7, 8, 1, 9] (by decide) rfl ?_
              refine v_loc [0, 1, 5] (lv' := [(2, .int (nI (p + 1))), (1, .int 0), (0, .ref (a 4))]) rfl ?_
              exact ihn_8 (p + 1) (upd v1 (o p) (d1 (dn (o p)))) d1 u (e1 + 1) (if d1 (dn (o p)) = 1 then f1 + we (o p) else f1) 0 (by omega) (by omega) (by rw [sitS, hs]; simp [sitStep, c10, c11, c12])
            · refine v_iconst C 1 dX2_hold_122 (by decide) ?_
              refine v_goto C 127 dX2_hold_123 (by decide) ?_
              refine v_istore_n C [(1, .int 1), (5, .int (e1 + 1)), (4, .int 0), (3, .int (nI (o p))), (2, .int (nI p)), (0, .ref (a 4))] dX2_hold_127 (by decide) rfl ?_
              refine v_iload_n C dX2_hold_128 0 rfl ?_
              refine v_if_eq C 142 dX2_hold_129 (by decide) (fun h => absurd h (by decide)) (fun _ => ?_)
              refine v_aload_n C dX2_hold_132 5 rfl ?_
              refine v_get C f_X2_18 dX2_hold_133 0 rfl rfl ?_
              refine v_iload_n C dX2_hold_136 3 rfl ?_
              refine v_iconst C 2 dX2_hold_137 (by decide) ?_
              refine v_iastN C [oT a (nI L) (nI lw) (nI s0) (nI st) (nI u) e1 f1, ia (a 31) cI 5 tk, ia (a 32) cI 5 od, ia (a 33) cI 5 (upd v1 (o p) 2), ia (a 34) cI 6 d1, oK a si (nI nj) ca la sw sk rd, ia (a 21) cI 5 ag, ia (a 22) cI 5 de, ia (a 23) cI 5 ta, ia (a 24) cI 5 we] dX2_hold_138 3 rfl (o p) rfl (by omega) (by decide) rfl ?_
              refine v_goto C 155 dX2_hold_139 (by decide) ?_
              refine v_iinc C (nI (p + 1)) [(2, .int (nI (p + 1))), (1, .int 1), (5, .int (e1 + 1)), (4, .int 0), (3, .int (nI (o p))), (0, .ref (a 4))] 4 dX2_hold_155 rfl (nI_inc _) (by decide) rfl ?_
              refine v_goto C 40 dX2_hold_158 (by decide) ?_
              refine v_loc [0, 1, 5] (lv' := [(2, .int (nI (p + 1))), (1, .int 1), (0, .ref (a 4))]) rfl ?_
              exact ihn_8 (p + 1) (upd v1 (o p) 2) d1 u e1 f1 1 (by omega) (by omega) (by rw [sitS, hs]; simp [sitStep, c10, c11, c12])
        · refine v_iconst C 1 dX2_hold_74 (by decide) ?_
          refine v_goto C 79 dX2_hold_75 (by decide) ?_
          refine v_istore C [(4, .int 1), (3, .int (nI (o p))), (2, .int (nI p)), (1, .int hm), (0, .ref (a 4))] dX2_hold_79 (by decide) rfl ?_
          refine v_aload_n C dX2_hold_81 4 rfl ?_
          refine v_get C f_X2_66 dX2_hold_82 0 rfl rfl ?_
          refine v_iload C dX2_hold_85 0 rfl ?_
          refine v_if_eq C 102 dX2_hold_87 (by decide) (fun h => absurd h (by decide)) (fun _ => ?_)
          refine v_aload_n C dX2_hold_90 4 rfl ?_
          refine v_get C f_X2_24 dX2_hold_91 0 rfl rfl ?_
          refine v_get C f_X2_75 dX2_hold_94 5 rfl rfl ?_
          refine v_iload_n C dX2_hold_97 1 rfl ?_
          refine v_ialdN C dX2_hold_98 8 rfl (o p) rfl (by omega) (by decide) ?_
          refine v_goto C 103 dX2_hold_99 (by decide) ?_
          refine v_iadd C dX2_hold_103 ?_
          refine v_istore C [(5, .int (e1 + (ta (o p)))), (4, .int 1), (3, .int (nI (o p))), (2, .int (nI p)), (1, .int hm), (0, .ref (a 4))] dX2_hold_104 (by decide) rfl ?_
          refine v_iload_n C dX2_hold_106 4 rfl ?_
          refine v_if_ne C 122 dX2_hold_107 (by decide) (fun c16 => ?_) (fun c16 => ?_)
          · refine v_iconst C 1 dX2_hold_122 (by decide) ?_
            refine v_goto C 127 dX2_hold_123 (by decide) ?_
            refine v_istore_n C [(1, .int 1), (5, .int (e1 + (ta (o p)))), (4, .int 1), (3, .int (nI (o p))), (2, .int (nI p)), (0, .ref (a 4))] dX2_hold_127 (by decide) rfl ?_
            refine v_iload_n C dX2_hold_128 0 rfl ?_
            refine v_if_eq C 142 dX2_hold_129 (by decide) (fun h => absurd h (by decide)) (fun _ => ?_)
            refine v_aload_n C dX2_hold_132 5 rfl ?_
            refine v_get C f_X2_18 dX2_hold_133 0 rfl rfl ?_
            refine v_iload_n C dX2_hold_136 3 rfl ?_
            refine v_iconst C 2 dX2_hold_137 (by decide) ?_
            refine v_iastN C [oT a (nI L) (nI lw) (nI s0) (nI st) (nI u) e1 f1, ia (a 31) cI 5 tk, ia (a 32) cI 5 od, ia (a 33) cI 5 (upd v1 (o p) 2), ia (a 34) cI 6 d1, oK a si (nI nj) ca la sw sk rd, ia (a 21) cI 5 ag, ia (a 22) cI 5 de, ia (a 23) cI 5 ta, ia (a 24) cI 5 we] dX2_hold_138 3 rfl (o p) rfl (by omega) (by decide) rfl ?_
            refine v_goto C 155 dX2_hold_139 (by decide) ?_
            refine v_iinc C (nI (p + 1)) [(2, .int (nI (p + 1))), (1, .int 1), (5, .int (e1 + (ta (o p)))), (4, .int 1), (3, .int (nI (o p))), (0, .ref (a 4))] 4 dX2_hold_155 rfl (nI_inc _) (by decide) rfl ?_
            refine v_goto C 40 dX2_hold_158 (by decide) ?_
            refine v_loc [0, 1, 5] (lv' := [(2, .int (nI (p + 1))), (1, .int 1), (0, .ref (a 4))]) rfl ?_
            exact ihn_8 (p + 1) (upd v1 (o p) 2) d1 u e1 f1 1 (by omega) (by omega) (by rw [sitS, hs]; simp [sitStep, c10, c16])
          · refine v_iload C dX2_hold_110 0 rfl ?_
            refine v_aload_n C dX2_hold_112 5 rfl ?_
            refine v_get C f_X2_24 dX2_hold_113 0 rfl rfl ?_
            refine v_get C f_X2_78 dX2_hold_116 5 rfl rfl ?_
            refine v_icmp_le C 126 dX2_hold_119 (by decide) (fun c17 => ?_) (fun c17 => ?_)
            · refine v_iconst C 0 dX2_hold_126 (by decide) ?_
              refine v_istore_n C [(1, .int 0), (5, .int (e1 + (ta (o p)))), (4, .int 1), (3, .int (nI (o p))), (2, .int (nI p)), (0, .ref (a 4))] dX2_hold_127 (by decide) rfl ?_
              refine v_iload_n C dX2_hold_128 0 rfl ?_
              refine v_if_eq C 142 dX2_hold_129 (by decide) (fun _ => ?_) (fun h => absurd h (by decide))
              refine v_aload_n C dX2_hold_142 5 rfl ?_
              refine v_iload C dX2_hold_143 1 rfl ?_
              refine v_put C p_X2_66 [oT a (nI L) (nI lw) (nI s0) (nI st) (nI u) (e1 + (ta (o p))) f1, ia (a 31) cI 5 tk, ia (a 32) cI 5 od, ia (a 33) cI 5 v1, ia (a 34) cI 6 d1, oK a si (nI nj) ca la sw sk rd, ia (a 21) cI 5 ag, ia (a 22) cI 5 de, ia (a 23) cI 5 ta, ia (a 24) cI 5 we] dX2_hold_145 0 rfl rfl rfl (Nat.le_of_ble_eq_true rfl) rfl ?_
              refine v_aload_n C dX2_hold_148 5 rfl ?_
              refine v_iload_n C dX2_hold_149 3 rfl ?_
              refine v_iload C dX2_hold_150 2 rfl ?_
              refine v_callMv C l_X2_81 (m_X2_judge1 a (o p) (dn (o p)) u st lw nj (nI L) (nI s0) (e1 + (ta (o p))) f1 tk v1 d1 si ca la sw sk rd ag de we (by omega) (hde (o p) hop).1 (hde (o p) hop).2 hnj hun hst hlw hp5) (by decide) dX2_hold_152 [0, 1, 3, 4, 5, 6, 7, 9] [2, 8] (wr := [ia (a 32) cI 5 od, ia (a 23) cI 5 ta]) (by decide) rfl rfl (by decide) (by decide) 0 rfl rfl rfl (rest := []) rfl (Nat.le_of_ble_eq_true rfl) (by decide) (fun w18 h19 => ?_)
              subst h19
              refine v_ws0 [ia (a 32) cI 5 od, ia (a 23) cI 5 ta, oT a (nI L) (nI lw) (nI s0) (nI st) (nI (unF nj tk u st)) (e1 + (ta (o p))) (if vdF nj tk ag u st (lw.testBit (dn (o p))) (e1 + (ta (o p))) = 1 then f1 + we (o p) else f1), ia (a 31) cI 5 tk, ia (a 33) cI 5 (upd v1 (o p) (vdF nj tk ag u st (lw.testBit (dn (o p))) (e1 + (ta (o p))))), ia (a 34) cI 6 (upd d1 (dn (o p)) (vdF nj tk ag u st (lw.testBit (dn (o p))) (e1 + (ta (o p))))), oK a si (nI nj) ca la sw sk rd, ia (a 21) cI 5 ag, ia (a 22) cI 5 de, ia (a 24) cI 5 we] rfl ?_
              refine v_iinc C (nI (p + 1)) [(2, .int (nI (p + 1))), (1, .int 0), (5, .int (e1 + (ta (o p)))), (4, .int 1), (3, .int (nI (o p))), (0, .ref (a 4))] 4 dX2_hold_155 rfl (nI_inc _) (by decide) rfl ?_
              refine v_goto C 40 dX2_hold_158 (by decide) ?_
              refine v_perm (ws' := [oT a (nI L) (nI lw) (nI s0) (nI st) (nI (unF nj tk u st)) (e1 + (ta (o p))) (if vdF nj tk ag u st (lw.testBit (dn (o p))) (e1 + (ta (o p))) = 1 then f1 + we (o p) else f1), ia (a 31) cI 5 tk, ia (a 32) cI 5 od, ia (a 33) cI 5 (upd v1 (o p) (vdF nj tk ag u st (lw.testBit (dn (o p))) (e1 + (ta (o p))))), ia (a 34) cI 6 (upd d1 (dn (o p)) (vdF nj tk ag u st (lw.testBit (dn (o p))) (e1 + (ta (o p))))), oK a si (nI nj) ca la sw sk rd, ia (a 21) cI 5 ag, ia (a 22) cI 5 de, ia (a 23) cI 5 ta, ia (a 24) cI 5 we]) [2, 3, 0, 4, 5, 6, 7, 8, 1, 9] (by decide) rfl ?_
              refine v_loc [0, 1, 5] (lv' := [(2, .int (nI (p + 1))), (1, .int 0), (0, .ref (a 4))]) rfl ?_
              exact ihn_8 (p + 1) (upd v1 (o p) (vdF nj tk ag u st (lw.testBit (dn (o p))) (e1 + (ta (o p))))) (upd d1 (dn (o p)) (vdF nj tk ag u st (lw.testBit (dn (o p))) (e1 + (ta (o p))))) (unF nj tk u st) (e1 + (ta (o p))) (if vdF nj tk ag u st (lw.testBit (dn (o p))) (e1 + (ta (o p))) = 1 then f1 + we (o p) else f1) 0 (by omega) (by omega) (by rw [sitS, hs]; simp [sitStep, c10, c16, c17])
            · refine v_iconst C 1 dX2_hold_122 (by decide) ?_
              refine v_goto C 127 dX2_hold_123 (by decide) ?_
              refine v_istore_n C [(1, .int 1), (5, .int (e1 + (ta (o p)))), (4, .int 1), (3, .int (nI (o p))), (2, .int (nI p)), (0, .ref (a 4))] dX2_hold_127 (by decide) rfl ?_
              refine v_iload_n C dX2_hold_128 0 rfl ?_
              refine v_if_eq C 142 dX2_hold_129 (by decide) (fun h => absurd h (by decide)) (fun _ => ?_)
              refine v_aload_n C dX2_hold_132 5 rfl ?_
              refine v_get C f_X2_18 dX2_hold_133 0 rfl rfl ?_
              refine v_iload_n C dX2_hold_136 3 rfl ?_
              refine v_iconst C 2 dX2_hold_137 (by decide) ?_
              refine v_iastN C [oT a (nI L) (nI lw) (nI s0) (nI st) (nI u) e1 f1, ia (a 31) cI 5 tk, ia (a 32) cI 5 od, ia (a 33) cI 5 (upd v1 (o p) 2), ia (a 34) cI 6 d1, oK a si (nI nj) ca la sw sk rd, ia (a 21) cI 5 ag, ia (a 22) cI 5 de, ia (a 23) cI 5 ta, ia (a 24) cI 5 we] dX2_hold_138 3 rfl (o p) rfl (by omega) (by decide) rfl ?_
              refine v_goto C 155 dX2_hold_139 (by decide) ?_
              refine v_iinc C (nI (p + 1)) [(2, .int (nI (p + 1))), (1, .int 1), (5, .int (e1 + (ta (o p)))), (4, .int 1), (3, .int (nI (o p))), (0, .ref (a 4))] 4 dX2_hold_155 rfl (nI_inc _) (by decide) rfl ?_
              refine v_goto C 40 dX2_hold_158 (by decide) ?_
              refine v_loc [0, 1, 5] (lv' := [(2, .int (nI (p + 1))), (1, .int 1), (0, .ref (a 4))]) rfl ?_
              exact ihn_8 (p + 1) (upd v1 (o p) 2) d1 u e1 f1 1 (by omega) (by omega) (by rw [sitS, hs]; simp [sitStep, c10, c16, c17])
  refine v_perm (ws' := [oT a (nI L) (nI lw) (nI s0) (nI st) (nI s0) 0 0, ia (a 31) cI 5 tk, ia (a 32) cI 5 od, ia (a 33) cI 5 (fun _ => (-9 : Int32)), ia (a 34) cI 6 (fun _ => (-9 : Int32)), oK a si (nI nj) ca la sw sk rd, ia (a 21) cI 5 ag, ia (a 22) cI 5 de, ia (a 23) cI 5 ta, ia (a 24) cI 5 we]) [0, 1, 2, 8, 9, 3, 4, 5, 6, 7] (by decide) rfl ?_
  exact lp (L - 0 + 1) 0 (fun _ => -9) (fun _ => -9) s0 0 0 0 (by omega) (by omega) (by simp [sitS])
