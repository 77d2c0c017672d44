theorem raw_odd : ∀ m, m < 64 → nI m &&& 1 = nI (m % 2) := by decide +kernel
theorem raw_half : ∀ m, m < 64 → nI m >>> ((1 : Int32) &&& 31) = nI (m / 2) := by decide +kernel
theorem pc_half : ∀ m, m < 64 → pcN m = m % 2 + pcN (m / 2) := by decide +kernel
theorem or_zero (m : Nat) : nI m ||| 0 = nI m := Int32.or_zero
theorem bA_n1 {m j : Nat} (h : ¬ bA m j = 1) : bA m j = 0 := by
  unfold bA at *
  split at h
  · exact absurd rfl h
  · rename_i q; rw [if_neg q]
theorem bA_set {f : Nat → Int32} {st i nj : Nat} (hf : ∀ j, j < nj → f j = bA st j) (hnj : nj ≤ 5) (hst : st < 64) (hi : i < nj) : ∀ j, j < nj → upd f i 1 j = bA (set1 st i) j := by
  intro j hj
  unfold upd bA
  rw [set1_bit st hst i (by omega) j (by omega)]
  by_cases e : j = i
  · simp [e]
  · rw [if_neg e, hf j hj]; unfold bA; simp [e]
theorem upd_id (f : Nat → Int32) {i : Nat} {x : Int32} (h : f i = x) : upd f i x = f := by
  funext j
  unfold upd
  by_cases e : j = i
  · rw [if_pos e, e, h]
  · rw [if_neg e]
theorem upd_back {f : Nat → Int32} {i : Nat} {x y : Int32} (h : f i = y) : upd (upd f i x) i y = f := by rw [upd_twice, upd_id f h]
theorem tbF_tbF (v u f : Nat → Int32) (i : Nat) : tbF v (tbF u f i) i = tbF v f i := by
  funext j
  unfold tbF
  by_cases e : j < i <;> simp [e]
theorem tbF_id {v f : Nat → Int32} {i : Nat} (h : ∀ j, j < i → f j = v j) : tbF v f i = f := by
  funext j
  unfold tbF
  by_cases e : j < i
  · simp [e, h j e]
  · simp [e]
set_option maxHeartbeats 4000000 in
set_option maxRecDepth 100000 in
theorem m_X5_size {l : Launch} {D : va_G} {cI cB cS : ClassId} (m : Nat) (hm : m < 64) : Ri l yX5_size cX5_size 3 (some .int) 0 0 D cI cB cS [.int (nI m)] [] (fun r => r = nI (pcN m)) := by
  refine Ri.of (by decide) (Nat.le_of_ble_eq_true rfl) ?_
  intro zp ze zs zm zb zt zc C
  refine v_lv0 [(0, .int (nI m))] rfl ?_
  refine v_iconst C 0 dX5_size_0 (by decide) ?_
  refine v_istore_n C [(1, .int 0), (0, .int (nI m))] dX5_size_1 (by decide) rfl ?_
  refine v_iload_n C dX5_size_2 1 rfl ?_
  refine v_istore_n C [(2, .int (nI m)), (1, .int 0), (0, .int (nI m))] dX5_size_3 (by decide) rfl ?_
  have lp : ∀ (n_2 : Nat) (xl : Nat) (yn : Nat), xl < n_2 → (xl < 64) → (yn + pcN xl = pcN m) → V zp l ze (rmOf 0 0) zs zm [.int (nI m)].toArray zb zt zc D (IR zs) (QRi zb [.int (nI m)].toArray zs (fun r => r = nI (pcN m))) 0 0 3 [] [(2, .int (nI xl)), (1, .int (nI yn)), (0, .int (nI m))] 4 [] := by
    intro n_2
    induction n_2 with
    | zero => intro xl yn b1; exact absurd b1 (by omega)
    | succ n_2 ihn_2 =>
      intro xl yn b1 hx hy
      refine v_iload_n C dX5_size_4 0 rfl ?_
      refine v_if_le C 21 dX5_size_5 (by decide) (fun c3 => ?_) (fun c3 => ?_)
      · have nc3 : xl ≤ 0 := nI_leD c3 (by omega)
        refine v_iload_n C dX5_size_21 1 rfl ?_
        exact v_retRi C dX5_size_22 rfl ((by rw [← hy, show xl = 0 by omega]; rfl))
      · have nc3 : 0 < xl := nI_ltD c3 (by omega)
        refine v_iload_n C dX5_size_8 1 rfl ?_
        refine v_iload_n C dX5_size_9 0 rfl ?_
        refine v_iconst C 1 dX5_size_10 (by decide) ?_
        refine v_iand C dX5_size_11 ?_
        refine v_eqi (nI (xl % 2)) (raw_odd _ (by omega)) ?_
        refine v_iadd C dX5_size_12 ?_
        refine v_eqi (nI (yn + xl % 2)) (nI_add _ _) ?_
        refine v_istore_n C [(1, .int (nI (yn + xl % 2))), (2, .int (nI xl)), (0, .int (nI m))] dX5_size_13 (by decide) rfl ?_
        refine v_iload_n C dX5_size_14 1 rfl ?_
        refine v_iconst C 1 dX5_size_15 (by decide) ?_
        refine v_ishr C dX5_size_16 ?_
        refine v_eqi (nI (xl / 2)) (raw_half _ (by omega)) ?_
        refine v_istore_n C [(2, .int (nI (xl / 2))), (1, .int (nI (yn + xl % 2))), (0, .int (nI m))] dX5_size_17 (by decide) rfl ?_
        refine v_goto C 4 dX5_size_18 (by decide) ?_
        exact ihn_2 (xl / 2) (yn + xl % 2) (by omega) (by omega) (by rw [← hy, pc_half xl (by omega)]; omega)
  exact lp (m + 1) m 0 (by omega) hm (by omega)
set_option maxHeartbeats 4000000 in
set_option maxRecDepth 100000 in
theorem m_X5_sweets {l : Launch} {D : va_G} {cI cB cS : ClassId} (b : Nat → Nat) (nj s0 : Nat) (n_fa : Int32) (n_tr : Int32) (n_mi : Int32) (n_co : Int32) (n_cr : Int32) (n_at : Int32) (n_rm : Int32) (n_rj : Int32) (n_rc : Int32) (n_nw : Int32) (n_ov : Int32) (n_rl : Int32) (n_rd : Int32) (n_hS : Nat → Int32) (hnj : nj ≤ 5) (hs0 : s0 < 2 ^ nj) (hhS : ∀ j, j < nj → n_hS j = bA s0 j) : Ri l yX5_sweets cX5_sweets 3 (some .int) 0 0 D cI cB cS [.ref (b 0)] [oN b n_fa n_tr n_mi (nI nj) n_co n_cr n_at n_rm n_rj n_rc n_nw n_ov n_rl n_rd, ia (b 11) cB 5 n_hS] (fun r => r = nI s0) := by
  refine Ri.of (by decide) (Nat.le_of_ble_eq_true rfl) ?_
  intro zp ze zs zm zb zt zc C
  refine v_lv0 [(0, .ref (b 0))] rfl ?_
  refine v_iconst C 0 dX5_sweets_0 (by decide) ?_
  refine v_istore_n C [(1, .int 0), (0, .ref (b 0))] dX5_sweets_1 (by decide) rfl ?_
  refine v_iconst C 0 dX5_sweets_2 (by decide) ?_
  refine v_istore_n C [(2, .int 0), (1, .int 0), (0, .ref (b 0))] dX5_sweets_3 (by decide) rfl ?_
  have lp : ∀ (n_2 : Nat) (j : Nat) (m : Nat), nj - j < n_2 → (j ≤ nj) → (m = mk (fun jx => s0.testBit jx) j) → V zp l ze (rmOf 0 0) zs zm [.ref (b 0)].toArray zb zt zc D (IR zs) (QRi zb [.ref (b 0)].toArray zs (fun r => r = nI s0)) 0 0 3 [oN b n_fa n_tr n_mi (nI nj) n_co n_cr n_at n_rm n_rj n_rc n_nw n_ov n_rl n_rd, ia (b 11) cB 5 n_hS] [(2, .int (nI j)), (1, .int (nI m)), (0, .ref (b 0))] 4 [] := by
    intro n_2
    induction n_2 with
    | zero => intro j m b1; exact absurd b1 (by omega)
    | succ n_2 ihn_2 =>
      intro j m b1 hj hm
      refine v_iload_n C dX5_sweets_4 0 rfl ?_
      refine v_aload_n C dX5_sweets_5 2 rfl ?_
      refine v_get C f_X5_78 dX5_sweets_6 0 rfl rfl ?_
      refine v_icmp_ge C 37 dX5_sweets_9 (by decide) (fun c3 => ?_) (fun c3 => ?_)
      · have nc3 : nj ≤ j := nI_leD c3 (by omega)
        have hje : j = nj := by omega
        refine v_iload_n C dX5_sweets_37 1 rfl ?_
        exact v_retRi C dX5_sweets_38 rfl ((by rw [hm, hje, mk_self hs0]))
      · have nc3 : j < nj := nI_ltD c3 (by omega)
        have hjn : j < nj := nc3
        refine v_iload_n C dX5_sweets_12 1 rfl ?_
        refine v_aload_n C dX5_sweets_13 2 rfl ?_
        refine v_get C f_X5_25 dX5_sweets_14 0 rfl rfl ?_
        refine v_iload_n C dX5_sweets_17 0 rfl ?_
        refine v_zaldN C dX5_sweets_18 1 rfl j rfl (by omega) (by decide) ?_
        refine v_eqi (bA s0 j) (hhS j hjn) ?_
        refine v_if_eq C 28 dX5_sweets_19 (by decide) (fun c4 => ?_) (fun c4 => ?_)
        · have hb : s0.testBit j = false := bA_0.mp c4
          refine v_iconst C 0 dX5_sweets_28 (by decide) ?_
          refine v_ior C dX5_sweets_29 ?_
          refine v_eqi (nI m) (or_zero m) ?_
          refine v_istore_n C [(1, .int (nI m)), (2, .int (nI j)), (0, .ref (b 0))] dX5_sweets_30 (by decide) rfl ?_
          refine v_iinc C (nI (j + 1)) [(2, .int (nI (j + 1))), (1, .int (nI m)), (0, .ref (b 0))] 1 dX5_sweets_31 rfl (nI_inc _) (by decide) rfl ?_
          refine v_goto C 4 dX5_sweets_34 (by decide) ?_
          exact ihn_2 (j + 1) m (by omega) (by omega) (by rw [hm]; exact mk_skip hb)
        · have hb : s0.testBit j = true := bA_n.mp c4
          refine v_iconst C 1 dX5_sweets_22 (by decide) ?_
          refine v_iload_n C dX5_sweets_23 0 rfl ?_
          refine v_ishl C dX5_sweets_24 ?_
          refine v_goto C 29 dX5_sweets_25 (by decide) ?_
          refine v_ior C dX5_sweets_29 ?_
          refine v_eqi (nI (set1 m j)) (raw_set m (by rw [hm]; have t := mk_lt (fun jx => s0.testBit jx) j; have := Nat.pow_le_pow_right (n := 2) (by omega) (show j ≤ 5 by omega); omega) j (by omega)) ?_
          refine v_istore_n C [(1, .int (nI (set1 m j))), (2, .int (nI j)), (0, .ref (b 0))] dX5_sweets_30 (by decide) rfl ?_
          refine v_iinc C (nI (j + 1)) [(2, .int (nI (j + 1))), (1, .int (nI (set1 m j))), (0, .ref (b 0))] 1 dX5_sweets_31 rfl (nI_inc _) (by decide) rfl ?_
          refine v_goto C 4 dX5_sweets_34 (by decide) ?_
          exact ihn_2 (j + 1) (set1 m j) (by omega) (by omega) (by rw [hm]; exact set1_mk (by omega) hb)
  exact lp (nj - 0 + 1) 0 0 (by omega) (by omega) rfl
set_option maxHeartbeats 4000000 in
set_option maxRecDepth 100000 in
theorem m_X5_struck {l : Launch} {D : va_G} {cI cB cS : ClassId} (b : Nat → Nat) (nj st : Nat) (n_fa : Int32) (n_tr : Int32) (n_mi : Int32) (n_co : Int32) (n_cr : Int32) (n_at : Int32) (n_rm : Int32) (n_rj : Int32) (n_rc : Int32) (n_nw : Int32) (n_ov : Int32) (n_rl : Int32) (n_rd : Int32) (n_iS : Nat → Int32) (hnj : nj ≤ 5) (hst2 : st < 2 ^ nj) (hiS : ∀ j, j < nj → n_iS j = bA st j) : Ri l yX5_struck cX5_struck 3 (some .int) 0 0 D cI cB cS [.ref (b 0)] [oN b n_fa n_tr n_mi (nI nj) n_co n_cr n_at n_rm n_rj n_rc n_nw n_ov n_rl n_rd, ia (b 12) cB 5 n_iS] (fun r => r = nI st) := by
  refine Ri.of (by decide) (Nat.le_of_ble_eq_true rfl) ?_
  intro zp ze zs zm zb zt zc C
  refine v_lv0 [(0, .ref (b 0))] rfl ?_
  refine v_iconst C 0 dX5_struck_0 (by decide) ?_
  refine v_istore_n C [(1, .int 0), (0, .ref (b 0))] dX5_struck_1 (by decide) rfl ?_
  refine v_iconst C 0 dX5_struck_2 (by decide) ?_
  refine v_istore_n C [(2, .int 0), (1, .int 0), (0, .ref (b 0))] dX5_struck_3 (by decide) rfl ?_
  have lp : ∀ (n_2 : Nat) (j : Nat) (m : Nat), nj - j < n_2 → (j ≤ nj) → (m = mk (fun jx => st.testBit jx) j) → V zp l ze (rmOf 0 0) zs zm [.ref (b 0)].toArray zb zt zc D (IR zs) (QRi zb [.ref (b 0)].toArray zs (fun r => r = nI st)) 0 0 3 [oN b n_fa n_tr n_mi (nI nj) n_co n_cr n_at n_rm n_rj n_rc n_nw n_ov n_rl n_rd, ia (b 12) cB 5 n_iS] [(2, .int (nI j)), (1, .int (nI m)), (0, .ref (b 0))] 4 [] := by
    intro n_2
    induction n_2 with
    | zero => intro j m b1; exact absurd b1 (by omega)
    | succ n_2 ihn_2 =>
      intro j m b1 hj hm
      refine v_iload_n C dX5_struck_4 0 rfl ?_
      refine v_aload_n C dX5_struck_5 2 rfl ?_
      refine v_get C f_X5_78 dX5_struck_6 0 rfl rfl ?_
      refine v_icmp_ge C 37 dX5_struck_9 (by decide) (fun c3 => ?_) (fun c3 => ?_)
      · have nc3 : nj ≤ j := nI_leD c3 (by omega)
        have hje : j = nj := by omega
        refine v_iload_n C dX5_struck_37 1 rfl ?_
        exact v_retRi C dX5_struck_38 rfl ((by rw [hm, hje, mk_self hst2]))
      · have nc3 : j < nj := nI_ltD c3 (by omega)
        have hjn : j < nj := nc3
        refine v_iload_n C dX5_struck_12 1 rfl ?_
        refine v_aload_n C dX5_struck_13 2 rfl ?_
        refine v_get C f_X5_29 dX5_struck_14 0 rfl rfl ?_
        refine v_iload_n C dX5_struck_17 0 rfl ?_
        refine v_zaldN C dX5_struck_18 1 rfl j rfl (by omega) (by decide) ?_
        refine v_eqi (bA st j) (hiS j hjn) ?_
        refine v_if_eq C 28 dX5_struck_19 (by decide) (fun c4 => ?_) (fun c4 => ?_)
        · have hb : st.testBit j = false := bA_0.mp c4
          refine v_iconst C 0 dX5_struck_28 (by decide) ?_
          refine v_ior C dX5_struck_29 ?_
          refine v_eqi (nI m) (or_zero m) ?_
          refine v_istore_n C [(1, .int (nI m)), (2, .int (nI j)), (0, .ref (b 0))] dX5_struck_30 (by decide) rfl ?_
          refine v_iinc C (nI (j + 1)) [(2, .int (nI (j + 1))), (1, .int (nI m)), (0, .ref (b 0))] 1 dX5_struck_31 rfl (nI_inc _) (by decide) rfl ?_
          refine v_goto C 4 dX5_struck_34 (by decide) ?_
          exact ihn_2 (j + 1) m (by omega) (by omega) (by rw [hm]; exact mk_skip hb)
        · have hb : st.testBit j = true := bA_n.mp c4
          refine v_iconst C 1 dX5_struck_22 (by decide) ?_
          refine v_iload_n C dX5_struck_23 0 rfl ?_
          refine v_ishl C dX5_struck_24 ?_
          refine v_goto C 29 dX5_struck_25 (by decide) ?_
          refine v_ior C dX5_struck_29 ?_
          refine v_eqi (nI (set1 m j)) (raw_set m (by rw [hm]; have t := mk_lt (fun jx => st.testBit jx) j; have := Nat.pow_le_pow_right (n := 2) (by omega) (show j ≤ 5 by omega); omega) j (by omega)) ?_
          refine v_istore_n C [(1, .int (nI (set1 m j))), (2, .int (nI j)), (0, .ref (b 0))] dX5_struck_30 (by decide) rfl ?_
          refine v_iinc C (nI (j + 1)) [(2, .int (nI (j + 1))), (1, .int (nI (set1 m j))), (0, .ref (b 0))] 1 dX5_struck_31 rfl (nI_inc _) (by decide) rfl ?_
          refine v_goto C 4 dX5_struck_34 (by decide) ?_
          exact ihn_2 (j + 1) (set1 m j) (by omega) (by omega) (by rw [hm]; exact set1_mk (by omega) hb)
  exact lp (nj - 0 + 1) 0 0 (by omega) (by omega) rfl
set_option maxHeartbeats 4000000 in
set_option maxRecDepth 100000 in
theorem m_X5_laySweets {l : Launch} {D : va_G} {cI cB cS : ClassId} (b : Nat → Nat) (nj m : Nat) (n_fa : Int32) (n_tr : Int32) (n_mi : Int32) (n_co : Int32) (n_cr : Int32) (n_at : Int32) (n_rm : Int32) (n_rj : Int32) (n_rc : Int32) (n_nw : Int32) (n_ov : Int32) (n_rl : Int32) (n_rd : Int32) (n_hS : Nat → Int32) (hnj : nj ≤ 5) (hm : m < 64) : Mv l yX5_laySweets cX5_laySweets 3 0 0 D cI cB cS [.ref (b 0), .int (nI m)] [oN b n_fa n_tr n_mi (nI nj) n_co n_cr n_at n_rm n_rj n_rc n_nw n_ov n_rl n_rd, ia (b 11) cB 5 n_hS] (fun w => w = [oN b n_fa n_tr n_mi (nI nj) n_co n_cr n_at n_rm n_rj n_rc n_nw n_ov n_rl n_rd, ia (b 11) cB 5 (tbF (bA m) n_hS nj)]) := by
  refine Mv.of (by decide) (Nat.le_of_ble_eq_true rfl) ?_
  intro zp ze zs zm zb zt zc zz zA hA C hnm
  refine v_lv0 [(0, .ref (b 0)), (1, .int (nI m))] rfl ?_
  refine v_iconst C 0 dX5_laySweets_0 (by decide) ?_
  refine v_istore_n C [(2, .int 0), (0, .ref (b 0)), (1, .int (nI m))] dX5_laySweets_1 (by decide) rfl ?_
  refine v_ws0 [oN b n_fa n_tr n_mi (nI nj) n_co n_cr n_at n_rm n_rj n_rc n_nw n_ov n_rl n_rd, ia (b 11) cB 5 (tbF (bA m) n_hS 0)] (by rw [tbF_0]) ?_
  have lp : ∀ (n_2 : Nat) (j : Nat), nj - j < n_2 → (j ≤ nj) → V zp l ze (rmOf 0 0) zs zm [.ref (b 0), .int (nI m)].toArray zb zt zc D (IM zA zs) (QMv zb [.ref (b 0), .int (nI m)].toArray zs D cI cB cS [oN b n_fa n_tr n_mi (nI nj) n_co n_cr n_at n_rm n_rj n_rc n_nw n_ov n_rl n_rd, ia (b 11) cB 5 n_hS] zz (fun w => w = [oN b n_fa n_tr n_mi (nI nj) n_co n_cr n_at n_rm n_rj n_rc n_nw n_ov n_rl n_rd, ia (b 11) cB 5 (tbF (bA m) n_hS nj)])) 0 0 3 [oN b n_fa n_tr n_mi (nI nj) n_co n_cr n_at n_rm n_rj n_rc n_nw n_ov n_rl n_rd, ia (b 11) cB 5 (tbF (bA m) n_hS j)] [(2, .int (nI j)), (0, .ref (b 0)), (1, .int (nI m))] 2 [] := by
    intro n_2
    induction n_2 with
    | zero => intro j b1; exact absurd b1 (by omega)
    | succ n_2 ihn_2 =>
      intro j b1 hj
      refine v_iload_n C dX5_laySweets_2 0 rfl ?_
      refine v_aload_n C dX5_laySweets_3 1 rfl ?_
      refine v_get C f_X5_78 dX5_laySweets_4 0 rfl rfl ?_
      refine v_icmp_ge C 36 dX5_laySweets_7 (by decide) (fun c3 => ?_) (fun c3 => ?_)
      · have nc3 : nj ≤ j := nI_leD c3 (by omega)
        have hce : j = nj := by omega
        refine v_ws0 [oN b n_fa n_tr n_mi (nI nj) n_co n_cr n_at n_rm n_rj n_rc n_nw n_ov n_rl n_rd, ia (b 11) cB 5 (tbF (bA m) n_hS nj)] (by rw [hce]) ?_
        exact v_retv C hA dX5_laySweets_36 (rfl)
      · have nc3 : j < nj := nI_ltD c3 (by omega)
        refine v_aload_n C dX5_laySweets_10 1 rfl ?_
        refine v_get C f_X5_25 dX5_laySweets_11 0 rfl rfl ?_
        refine v_iload_n C dX5_laySweets_14 0 rfl ?_
        refine v_iload_n C dX5_laySweets_15 2 rfl ?_
        refine v_iload_n C dX5_laySweets_16 0 rfl ?_
        refine v_ishr C dX5_laySweets_17 ?_
        refine v_iconst C 1 dX5_laySweets_18 (by decide) ?_
        refine v_iand C dX5_laySweets_19 ?_
        refine v_eqi (bA m j) (raw_bit m hm j (by omega)) ?_
        refine v_iconst C 1 dX5_laySweets_20 (by decide) ?_
        refine v_icmp_ne C 28 dX5_laySweets_21 (by decide) (fun c4 => ?_) (fun c4 => ?_)
        · have hb : bA m j = 0 := bA_n1 c4
          refine v_iconst C 0 dX5_laySweets_28 (by decide) ?_
          refine v_zastN C [oN b n_fa n_tr n_mi (nI nj) n_co n_cr n_at n_rm n_rj n_rc n_nw n_ov n_rl n_rd, ia (b 11) cB 5 (upd (tbF (bA m) n_hS j) j 0)] dX5_laySweets_29 1 rfl j rfl (by omega) (by decide) rfl rfl ?_
          refine v_ws0 [oN b n_fa n_tr n_mi (nI nj) n_co n_cr n_at n_rm n_rj n_rc n_nw n_ov n_rl n_rd, ia (b 11) cB 5 (tbF (bA m) n_hS (j + 1))] (by rw [← tbF_s (bA m), hb]) ?_
          refine v_iinc C (nI (j + 1)) [(2, .int (nI (j + 1))), (0, .ref (b 0)), (1, .int (nI m))] 0 dX5_laySweets_30 rfl (nI_inc _) (by decide) rfl ?_
          refine v_goto C 2 dX5_laySweets_33 (by decide) ?_
          exact ihn_2 (j + 1) (by omega) (by omega)
        · have hb : bA m j = 1 := c4
          refine v_iconst C 1 dX5_laySweets_24 (by decide) ?_
          refine v_goto C 29 dX5_laySweets_25 (by decide) ?_
          refine v_zastN C [oN b n_fa n_tr n_mi (nI nj) n_co n_cr n_at n_rm n_rj n_rc n_nw n_ov n_rl n_rd, ia (b 11) cB 5 (upd (tbF (bA m) n_hS j) j 1)] dX5_laySweets_29 1 rfl j rfl (by omega) (by decide) rfl rfl ?_
          refine v_ws0 [oN b n_fa n_tr n_mi (nI nj) n_co n_cr n_at n_rm n_rj n_rc n_nw n_ov n_rl n_rd, ia (b 11) cB 5 (tbF (bA m) n_hS (j + 1))] (by rw [← tbF_s (bA m), hb]) ?_
          refine v_iinc C (nI (j + 1)) [(2, .int (nI (j + 1))), (0, .ref (b 0)), (1, .int (nI m))] 0 dX5_laySweets_30 rfl (nI_inc _) (by decide) rfl ?_
          refine v_goto C 2 dX5_laySweets_33 (by decide) ?_
          exact ihn_2 (j + 1) (by omega) (by omega)
  exact lp (nj - 0 + 1) 0 (by omega) (by omega)
set_option maxHeartbeats 4000000 in
set_option maxRecDepth 100000 in
theorem m_X5_layStruck {l : Launch} {D : va_G} {cI cB cS : ClassId} (b : Nat → Nat) (nj m : Nat) (n_fa : Int32) (n_tr : Int32) (n_mi : Int32) (n_co : Int32) (n_cr : Int32) (n_at : Int32) (n_rm : Int32) (n_rj : Int32) (n_rc : Int32) (n_nw : Int32) (n_ov : Int32) (n_rl : Int32) (n_rd : Int32) (n_iS : Nat → Int32) (hnj : nj ≤ 5) (hm : m < 64) : Mv l yX5_layStruck cX5_layStruck 3 0 0 D cI cB cS [.ref (b 0), .int (nI m)] [oN b n_fa n_tr n_mi (nI nj) n_co n_cr n_at n_rm n_rj n_rc n_nw n_ov n_rl n_rd, ia (b 12) cB 5 n_iS] (fun w => w = [oN b n_fa n_tr n_mi (nI nj) n_co n_cr n_at n_rm n_rj n_rc n_nw n_ov n_rl n_rd, ia (b 12) cB 5 (tbF (bA m) n_iS nj)]) := by
  refine Mv.of (by decide) (Nat.le_of_ble_eq_true rfl) ?_
  intro zp ze zs zm zb zt zc zz zA hA C hnm
  refine v_lv0 [(0, .ref (b 0)), (1, .int (nI m))] rfl ?_
  refine v_iconst C 0 dX5_layStruck_0 (by decide) ?_
  refine v_istore_n C [(2, .int 0), (0, .ref (b 0)), (1, .int (nI m))] dX5_layStruck_1 (by decide) rfl ?_
  refine v_ws0 [oN b n_fa n_tr n_mi (nI nj) n_co n_cr n_at n_rm n_rj n_rc n_nw n_ov n_rl n_rd, ia (b 12) cB 5 (tbF (bA m) n_iS 0)] (by rw [tbF_0]) ?_
  have lp : ∀ (n_2 : Nat) (j : Nat), nj - j < n_2 → (j ≤ nj) → V zp l ze (rmOf 0 0) zs zm [.ref (b 0), .int (nI m)].toArray zb zt zc D (IM zA zs) (QMv zb [.ref (b 0), .int (nI m)].toArray zs D cI cB cS [oN b n_fa n_tr n_mi (nI nj) n_co n_cr n_at n_rm n_rj n_rc n_nw n_ov n_rl n_rd, ia (b 12) cB 5 n_iS] zz (fun w => w = [oN b n_fa n_tr n_mi (nI nj) n_co n_cr n_at n_rm n_rj n_rc n_nw n_ov n_rl n_rd, ia (b 12) cB 5 (tbF (bA m) n_iS nj)])) 0 0 3 [oN b n_fa n_tr n_mi (nI nj) n_co n_cr n_at n_rm n_rj n_rc n_nw n_ov n_rl n_rd, ia (b 12) cB 5 (tbF (bA m) n_iS j)] [(2, .int (nI j)), (0, .ref (b 0)), (1, .int (nI m))] 2 [] := by
    intro n_2
    induction n_2 with
    | zero => intro j b1; exact absurd b1 (by omega)
    | succ n_2 ihn_2 =>
      intro j b1 hj
      refine v_iload_n C dX5_layStruck_2 0 rfl ?_
      refine v_aload_n C dX5_layStruck_3 1 rfl ?_
      refine v_get C f_X5_78 dX5_layStruck_4 0 rfl rfl ?_
      refine v_icmp_ge C 36 dX5_layStruck_7 (by decide) (fun c3 => ?_) (fun c3 => ?_)
      · have nc3 : nj ≤ j := nI_leD c3 (by omega)
        have hce : j = nj := by omega
        refine v_ws0 [oN b n_fa n_tr n_mi (nI nj) n_co n_cr n_at n_rm n_rj n_rc n_nw n_ov n_rl n_rd, ia (b 12) cB 5 (tbF (bA m) n_iS nj)] (by rw [hce]) ?_
        exact v_retv C hA dX5_layStruck_36 (rfl)
      · have nc3 : j < nj := nI_ltD c3 (by omega)
        refine v_aload_n C dX5_layStruck_10 1 rfl ?_
        refine v_get C f_X5_29 dX5_layStruck_11 0 rfl rfl ?_
        refine v_iload_n C dX5_layStruck_14 0 rfl ?_
        refine v_iload_n C dX5_layStruck_15 2 rfl ?_
        refine v_iload_n C dX5_layStruck_16 0 rfl ?_
        refine v_ishr C dX5_layStruck_17 ?_
        refine v_iconst C 1 dX5_layStruck_18 (by decide) ?_
        refine v_iand C dX5_layStruck_19 ?_
        refine v_eqi (bA m j) (raw_bit m hm j (by omega)) ?_
        refine v_iconst C 1 dX5_layStruck_20 (by decide) ?_
        refine v_icmp_ne C 28 dX5_layStruck_21 (by decide) (fun c4 => ?_) (fun c4 => ?_)
        · have hb : bA m j = 0 := bA_n1 c4
          refine v_iconst C 0 dX5_layStruck_28 (by decide) ?_
          refine v_zastN C [oN b n_fa n_tr n_mi (nI nj) n_co n_cr n_at n_rm n_rj n_rc n_nw n_ov n_rl n_rd, ia (b 12) cB 5 (upd (tbF (bA m) n_iS j) j 0)] dX5_layStruck_29 1 rfl j rfl (by omega) (by decide) rfl rfl ?_
          refine v_ws0 [oN b n_fa n_tr n_mi (nI nj) n_co n_cr n_at n_rm n_rj n_rc n_nw n_ov n_rl n_rd, ia (b 12) cB 5 (tbF (bA m) n_iS (j + 1))] (by rw [← tbF_s (bA m), hb]) ?_
          refine v_iinc C (nI (j + 1)) [(2, .int (nI (j + 1))), (0, .ref (b 0)), (1, .int (nI m))] 0 dX5_layStruck_30 rfl (nI_inc _) (by decide) rfl ?_
          refine v_goto C 2 dX5_layStruck_33 (by decide) ?_
          exact ihn_2 (j + 1) (by omega) (by omega)
        · have hb : bA m j = 1 := c4
          refine v_iconst C 1 dX5_layStruck_24 (by decide) ?_
          refine v_goto C 29 dX5_layStruck_25 (by decide) ?_
          refine v_zastN C [oN b n_fa n_tr n_mi (nI nj) n_co n_cr n_at n_rm n_rj n_rc n_nw n_ov n_rl n_rd, ia (b 12) cB 5 (upd (tbF (bA m) n_iS j) j 1)] dX5_layStruck_29 1 rfl j rfl (by omega) (by decide) rfl rfl ?_
          refine v_ws0 [oN b n_fa n_tr n_mi (nI nj) n_co n_cr n_at n_rm n_rj n_rc n_nw n_ov n_rl n_rd, ia (b 12) cB 5 (tbF (bA m) n_iS (j + 1))] (by rw [← tbF_s (bA m), hb]) ?_
          refine v_iinc C (nI (j + 1)) [(2, .int (nI (j + 1))), (0, .ref (b 0)), (1, .int (nI m))] 0 dX5_layStruck_30 rfl (nI_inc _) (by decide) rfl ?_
          refine v_goto C 2 dX5_layStruck_33 (by decide) ?_
          exact ihn_2 (j + 1) (by omega) (by omega)
  exact lp (nj - 0 + 1) 0 (by omega) (by omega)
set_option maxHeartbeats 4000000 in
set_option maxRecDepth 100000 in
theorem m_X5_swap {l : Launch} {D : va_G} {cI cB cS : ClassId} (b : Nat → Nat) (p q : Nat) (n_fa : Int32) (n_tr : Int32) (n_mi : Int32) (n_ju : Int32) (n_co : Int32) (n_cr : Int32) (n_at : Int32) (n_rm : Int32) (n_rj : Int32) (n_rc : Int32) (n_nw : Int32) (n_ov : Int32) (n_rl : Int32) (n_rd : Int32) (n_rw : Nat → Int32) (hp : p < 5) (hq : q < 5) : Mv l yX5_swap cX5_swap 4 0 0 D cI cB cS [.ref (b 0), .int (nI p), .int (nI q)] [oN b n_fa n_tr n_mi n_ju n_co n_cr n_at n_rm n_rj n_rc n_nw n_ov n_rl n_rd, ia (b 28) cI 5 n_rw] (fun w => w = [oN b n_fa n_tr n_mi n_ju n_co n_cr n_at n_rm n_rj n_rc n_nw n_ov n_rl n_rd, ia (b 28) cI 5 (upd (upd n_rw p (n_rw q)) q (n_rw p))]) := by
  refine Mv.of (by decide) (Nat.le_of_ble_eq_true rfl) ?_
  intro zp ze zs zm zb zt zc zz zA hA C hnm
  refine v_lv0 [(0, .ref (b 0)), (1, .int (nI p)), (2, .int (nI q))] rfl ?_
  refine v_aload_n C dX5_swap_0 0 rfl ?_
  refine v_get C f_X5_56 dX5_swap_1 0 rfl rfl ?_
  refine v_iload_n C dX5_swap_4 1 rfl ?_
  refine v_ialdN C dX5_swap_5 1 rfl p rfl (by omega) (by decide) ?_
  refine v_istore_n C [(3, .int (n_rw p)), (0, .ref (b 0)), (1, .int (nI p)), (2, .int (nI q))] dX5_swap_6 (by decide) rfl ?_
  refine v_aload_n C dX5_swap_7 1 rfl ?_
  refine v_get C f_X5_56 dX5_swap_8 0 rfl rfl ?_
  refine v_iload_n C dX5_swap_11 2 rfl ?_
  refine v_aload_n C dX5_swap_12 1 rfl ?_
  refine v_get C f_X5_56 dX5_swap_13 0 rfl rfl ?_
  refine v_iload_n C dX5_swap_16 3 rfl ?_
  refine v_ialdN C dX5_swap_17 1 rfl q rfl (by omega) (by decide) ?_
  refine v_iastN C [oN b n_fa n_tr n_mi n_ju n_co n_cr n_at n_rm n_rj n_rc n_nw n_ov n_rl n_rd, ia (b 28) cI 5 (upd n_rw p (n_rw q))] dX5_swap_18 1 rfl p rfl (by omega) (by decide) rfl ?_
  refine v_aload_n C dX5_swap_19 1 rfl ?_
  refine v_get C f_X5_56 dX5_swap_20 0 rfl rfl ?_
  refine v_iload_n C dX5_swap_23 3 rfl ?_
  refine v_iload_n C dX5_swap_24 0 rfl ?_
  refine v_iastN C [oN b n_fa n_tr n_mi n_ju n_co n_cr n_at n_rm n_rj n_rc n_nw n_ov n_rl n_rd, ia (b 28) cI 5 (upd (upd n_rw p (n_rw q)) q (n_rw p))] dX5_swap_25 1 rfl q rfl (by omega) (by decide) rfl ?_
  exact v_retv C hA dX5_swap_26 (rfl)
set_option maxHeartbeats 4000000 in
set_option maxRecDepth 100000 in
theorem m_X5_nextRow {l : Launch} {D : va_G} {cI cB cS : ClassId} (b : Nat → Nat) (L : Nat) (g : Nat → Nat) (n_fa : Int32) (n_tr : Int32) (n_mi : Int32) (n_ju : Int32) (n_cr : Int32) (n_at : Int32) (n_rm : Int32) (n_rj : Int32) (n_rc : Int32) (n_nw : Int32) (n_ov : Int32) (n_rl : Int32) (n_rd : Int32) (n_rw : Nat → Int32) (hL : L ≤ 5) (hL1 : 1 ≤ L) (hf : ∀ i, i < L → n_rw i = nI (g i)) (hg : ∀ i, i < L → g i < 5) : Mi l yX5_nextRow cX5_nextRow 5 (some .boolean) 1 23 D cI cB cS [.ref (b 0)] [oN b n_fa n_tr n_mi n_ju (nI L) n_cr n_at n_rm n_rj n_rc n_nw n_ov n_rl n_rd, ia (b 28) cI 5 n_rw] (fun r w => (nxN L g = none ∧ r = 0 ∧ w = [oN b n_fa n_tr n_mi n_ju (nI L) n_cr n_at n_rm n_rj n_rc n_nw n_ov n_rl n_rd, ia (b 28) cI 5 n_rw]) ∨ (∃ (g' : Nat → Nat) (od' : Nat → Int32), nxN L g = some g' ∧ r = 1 ∧ w = [oN b n_fa n_tr n_mi n_ju (nI L) n_cr n_at n_rm n_rj n_rc n_nw n_ov n_rl n_rd, ia (b 28) cI 5 od'] ∧ ∀ i, i < L → od' i = nI (g' i))) := by
  refine Mi.of (by decide) (Nat.le_of_ble_eq_true rfl) ?_
  intro zp ze zs zm zb zt zc zz zA hA C hnm
  refine v_lv0 [(0, .ref (b 0))] rfl ?_
  refine v_aload_n C dX5_nextRow_0 0 rfl ?_
  refine v_get C f_X5_81 dX5_nextRow_1 0 rfl rfl ?_
  refine v_iconst C 2 dX5_nextRow_4 (by decide) ?_
  refine v_isub C dX5_nextRow_5 ?_
  refine v_istore_n C [(1, .int ((nI L) - 2)), (0, .ref (b 0))] dX5_nextRow_6 (by decide) rfl ?_
  have hz : nI L - 2 = nI (L - 1) + (-1) := nx_start hL1
  refine v_lv0 [(1, .int (nI (L - 1) + (-1))), (0, .ref (b 0))] (by rw [hz]) ?_
  have lp : ∀ (n_2 : Nat) (r : Nat), r < n_2 → (r ≤ L - 1) → (rsN g (L - 1) = rsN g r) → V zp l ze (rmOf 1 23) zs zm [.ref (b 0)].toArray zb zt zc D (IM zA zs) (QMi zb [.ref (b 0)].toArray zs D cI cB cS [oN b n_fa n_tr n_mi n_ju (nI L) n_cr n_at n_rm n_rj n_rc n_nw n_ov n_rl n_rd, ia (b 28) cI 5 n_rw] zz (fun r w => (nxN L g = none ∧ r = 0 ∧ w = [oN b n_fa n_tr n_mi n_ju (nI L) n_cr n_at n_rm n_rj n_rc n_nw n_ov n_rl n_rd, ia (b 28) cI 5 n_rw]) ∨ (∃ (g' : Nat → Nat) (od' : Nat → Int32), nxN L g = some g' ∧ r = 1 ∧ w = [oN b n_fa n_tr n_mi n_ju (nI L) n_cr n_at n_rm n_rj n_rc n_nw n_ov n_rl n_rd, ia (b 28) cI 5 od'] ∧ ∀ i, i < L → od' i = nI (g' i)))) 0 0 5 [oN b n_fa n_tr n_mi n_ju (nI L) n_cr n_at n_rm n_rj n_rc n_nw n_ov n_rl n_rd, ia (b 28) cI 5 n_rw] [(1, .int (nI r + (-1))), (0, .ref (b 0))] 7 [] := by
    intro n_2
    induction n_2 with
    | zero => intro r b1; exact absurd b1 (by omega)
    | succ n_2 ihn_2 =>
      intro r b1 hr hrs
      cases r with
      | zero =>
        refine v_lv0 [(1, .int (-1)), (0, .ref (b 0))] (by rfl) ?_
        refine v_iload_n C dX5_nextRow_7 0 rfl ?_
        have hrs0 := hrs
        refine v_if_lt C 34 dX5_nextRow_8 (by decide) (fun _ => ?_) (fun h => absurd h (by decide))
        refine v_iload_n C dX5_nextRow_34 0 rfl ?_
        refine v_if_ge C 40 dX5_nextRow_35 (by decide) (fun h => absurd h (by decide)) (fun _ => ?_)
        refine v_iconst C 0 dX5_nextRow_38 (by decide) ?_
        exact v_reti C hA dX5_nextRow_39 rfl (Or.inl ⟨by rw [nxN, hrs]; rfl, rfl, rfl⟩)
      | succ r =>
        refine v_lv0 [(1, .int (nI r)), (0, .ref (b 0))] (by rw [pk_m1]) ?_
        refine v_iload_n C dX5_nextRow_7 0 rfl ?_
        refine v_if_lt C 34 dX5_nextRow_8 (by decide) (fun c3 => ?_) (fun c3 => ?_)
        · have nc3 : r < 0 := nI_ltP c3 (by omega)
          exact absurd nc3 (by omega)
        · have nc3 : 0 ≤ r := nI_geP c3 (by omega)
          refine v_aload_n C dX5_nextRow_11 1 rfl ?_
          refine v_get C f_X5_56 dX5_nextRow_12 0 rfl rfl ?_
          refine v_iload_n C dX5_nextRow_15 0 rfl ?_
          refine v_ialdN C dX5_nextRow_16 1 rfl r rfl (by omega) (by decide) ?_
          refine v_eqi (nI (g r)) (hf r (by omega)) ?_
          refine v_aload_n C dX5_nextRow_17 1 rfl ?_
          refine v_get C f_X5_56 dX5_nextRow_18 0 rfl rfl ?_
          refine v_iload_n C dX5_nextRow_21 0 rfl ?_
          refine v_iconst C 1 dX5_nextRow_22 (by decide) ?_
          refine v_iadd C dX5_nextRow_23 ?_
          refine v_eqi (nI (r + 1)) (nI_1 r) ?_
          refine v_ialdN C dX5_nextRow_24 1 rfl (r + 1) rfl (by omega) (by decide) ?_
          refine v_eqi (nI (g (r + 1))) (hf (r + 1) (by omega)) ?_
          have hg0 := hg r (by omega)
          have hg1 := hg (r + 1) (by omega)
          refine v_icmp_le C 34 dX5_nextRow_25 (by decide) (fun c4 => ?_) (fun c4 => ?_)
          · have nc4 : (g r) ≤ (g (r + 1)) := nI_leD c4 (by omega)
            have hrr : rsN g (L - 1) = some r := by rw [hrs, rsN, if_neg (by omega)]
            refine v_iload_n C dX5_nextRow_34 0 rfl ?_
            refine v_if_ge C 40 dX5_nextRow_35 (by decide) (fun c5 => ?_) (fun c5 => ?_)
            · have nc5 : 0 ≤ r := nI_leD c5 (by omega)
              refine v_aload_n C dX5_nextRow_40 1 rfl ?_
              refine v_get C f_X5_81 dX5_nextRow_41 0 rfl rfl ?_
              refine v_iconst C 1 dX5_nextRow_44 (by decide) ?_
              refine v_isub C dX5_nextRow_45 ?_
              refine v_eqi (nI (L - 1)) (pk_sub (by omega : 1 ≤ L)) ?_
              refine v_istore_n C [(2, .int (nI (L - 1))), (1, .int (nI r)), (0, .ref (b 0))] dX5_nextRow_46 (by decide) rfl ?_
              have lq : ∀ (n_7 : Nat) (w : Nat), w < n_7 → (r + 1 ≤ w) → (w ≤ L - 1) → (wtN g r (L - 1) = wtN g r w) → V zp l ze (rmOf 1 23) zs zm [.ref (b 0)].toArray zb zt zc D (IM zA zs) (QMi zb [.ref (b 0)].toArray zs D cI cB cS [oN b n_fa n_tr n_mi n_ju (nI L) n_cr n_at n_rm n_rj n_rc n_nw n_ov n_rl n_rd, ia (b 28) cI 5 n_rw] zz (fun r w => (nxN L g = none ∧ r = 0 ∧ w = [oN b n_fa n_tr n_mi n_ju (nI L) n_cr n_at n_rm n_rj n_rc n_nw n_ov n_rl n_rd, ia (b 28) cI 5 n_rw]) ∨ (∃ (g' : Nat → Nat) (od' : Nat → Int32), nxN L g = some g' ∧ r = 1 ∧ w = [oN b n_fa n_tr n_mi n_ju (nI L) n_cr n_at n_rm n_rj n_rc n_nw n_ov n_rl n_rd, ia (b 28) cI 5 od'] ∧ ∀ i, i < L → od' i = nI (g' i)))) 0 0 5 [oN b n_fa n_tr n_mi n_ju (nI L) n_cr n_at n_rm n_rj n_rc n_nw n_ov n_rl n_rd, ia (b 28) cI 5 n_rw] [(2, .int (nI w)), (1, .int (nI r)), (0, .ref (b 0))] 47 [] := by
                intro n_7
                induction n_7 with
                | zero => intro w b6; exact absurd b6 (by omega)
                | succ n_7 ihn_7 =>
                  intro w b6 hw1 hw2 hw
                  refine v_aload_n C dX5_nextRow_47 2 rfl ?_
                  refine v_get C f_X5_56 dX5_nextRow_48 0 rfl rfl ?_
                  refine v_iload_n C dX5_nextRow_51 0 rfl ?_
                  refine v_ialdN C dX5_nextRow_52 1 rfl w rfl (by omega) (by decide) ?_
                  refine v_eqi (nI (g w)) (hf w (by omega)) ?_
                  refine v_aload_n C dX5_nextRow_53 2 rfl ?_
                  refine v_get C f_X5_56 dX5_nextRow_54 0 rfl rfl ?_
                  refine v_iload_n C dX5_nextRow_57 1 rfl ?_
                  refine v_ialdN C dX5_nextRow_58 1 rfl r rfl (by omega) (by decide) ?_
                  refine v_eqi (nI (g r)) (hf r (by omega)) ?_
                  have hgw := hg w (by omega)
                  refine v_icmp_ge C 68 dX5_nextRow_59 (by decide) (fun c8 => ?_) (fun c8 => ?_)
                  · have nc8 : (g r) ≤ (g w) := nI_leD c8 (by omega)
                    have hwe : wtN g r (L - 1) = w := by rw [hw]; cases w with | zero => rfl | succ w => rw [wtN, if_neg (by omega)]
                    refine v_aload_n C dX5_nextRow_68 2 rfl ?_
                    refine v_iload_n C dX5_nextRow_69 1 rfl ?_
                    refine v_iload_n C dX5_nextRow_70 0 rfl ?_
                    refine v_callMv C l_X5_186 (m_X5_swap b r w n_fa n_tr n_mi n_ju (nI L) n_cr n_at n_rm n_rj n_rc n_nw n_ov n_rl n_rd n_rw (by omega) (by omega)) (by decide) dX5_nextRow_71 [0, 1] [] (wr := []) (by decide) rfl rfl (by decide) (by decide) 0 rfl rfl rfl (rest := []) rfl (Nat.le_of_ble_eq_true rfl) (by decide) (fun w9 h10 => ?_)
                    subst h10
                    refine v_ws0 [oN b n_fa n_tr n_mi n_ju (nI L) n_cr n_at n_rm n_rj n_rc n_nw n_ov n_rl n_rd, ia (b 28) cI 5 (upd (upd n_rw r (n_rw w)) w (n_rw r))] rfl ?_
                    refine v_iload_n C dX5_nextRow_74 1 rfl ?_
                    refine v_iconst C 1 dX5_nextRow_75 (by decide) ?_
                    refine v_iadd C dX5_nextRow_76 ?_
                    refine v_eqi (nI (r + 1)) (nI_1 r) ?_
                    refine v_istore_n C [(3, .int (nI (r + 1))), (2, .int (nI w)), (1, .int (nI r)), (0, .ref (b 0))] dX5_nextRow_77 (by decide) rfl ?_
                    refine v_aload_n C dX5_nextRow_78 3 rfl ?_
                    refine v_get C f_X5_81 dX5_nextRow_79 0 rfl rfl ?_
                    refine v_iconst C 1 dX5_nextRow_82 (by decide) ?_
                    refine v_isub C dX5_nextRow_83 ?_
                    refine v_eqi (nI (L - 1)) (pk_sub (by omega : 1 ≤ L)) ?_
                    refine v_istore C [(4, .int (nI (L - 1))), (3, .int (nI (r + 1))), (2, .int (nI w)), (1, .int (nI r)), (0, .ref (b 0))] dX5_nextRow_84 (by decide) rfl ?_
                    have hf1 := sw_upd hf (show r < L by omega) (show w < L by omega)
                    have lr : ∀ (n_13 : Nat) (lf : Nat) (rt : Nat) (fu : Nat) (f2 : Nat → Int32) (g2 : Nat → Nat), rt - lf < n_13 → (lf ≤ L) → (1 ≤ lf) → (rt ≤ L - 1) → (rt < lf + fu) → (∀ i, i < L → f2 i = nI (g2 i)) → (rvN (swN g r w) L (r + 1) (L - 1) = rvN g2 fu lf rt) → V zp l ze (rmOf 1 23) zs zm [.ref (b 0)].toArray zb zt zc D (IM zA zs) (QMi zb [.ref (b 0)].toArray zs D cI cB cS [oN b n_fa n_tr n_mi n_ju (nI L) n_cr n_at n_rm n_rj n_rc n_nw n_ov n_rl n_rd, ia (b 28) cI 5 n_rw] zz (fun r w => (nxN L g = none ∧ r = 0 ∧ w = [oN b n_fa n_tr n_mi n_ju (nI L) n_cr n_at n_rm n_rj n_rc n_nw n_ov n_rl n_rd, ia (b 28) cI 5 n_rw]) ∨ (∃ (g' : Nat → Nat) (od' : Nat → Int32), nxN L g = some g' ∧ r = 1 ∧ w = [oN b n_fa n_tr n_mi n_ju (nI L) n_cr n_at n_rm n_rj n_rc n_nw n_ov n_rl n_rd, ia (b 28) cI 5 od'] ∧ ∀ i, i < L → od' i = nI (g' i)))) 0 0 5 [oN b n_fa n_tr n_mi n_ju (nI L) n_cr n_at n_rm n_rj n_rc n_nw n_ov n_rl n_rd, ia (b 28) cI 5 f2] [(4, .int (nI rt)), (3, .int (nI lf)), (0, .ref (b 0))] 86 [] := by
                      intro n_13
                      induction n_13 with
                      | zero => intro lf rt fu f2 g2 b12; exact absurd b12 (by omega)
                      | succ n_13 ihn_13 =>
                        intro lf rt fu f2 g2 b12 hl3 hl1 hl2 hfu hf2 hg2
                        refine v_iload_n C dX5_nextRow_86 1 rfl ?_
                        refine v_iload C dX5_nextRow_87 0 rfl ?_
                        refine v_icmp_ge C 108 dX5_nextRow_89 (by decide) (fun c14 => ?_) (fun c14 => ?_)
                        · have nc14 : rt ≤ lf := nI_leD c14 (by omega)
                          refine v_iconst C 1 dX5_nextRow_108 (by decide) ?_
                          exact v_reti C hA dX5_nextRow_109 rfl (Or.inr ⟨g2, f2, by rw [nxN, hrr]; show some (rvN (swN g r (wtN g r (L - 1))) L (r + 1) (L - 1)) = _; rw [hwe, hg2, rvN_end (by omega)], rfl, rfl, hf2⟩)
                        · have nc14 : lf < rt := nI_ltD c14 (by omega)
                          refine v_aload_n C dX5_nextRow_92 2 rfl ?_
                          refine v_iload_n C dX5_nextRow_93 1 rfl ?_
                          refine v_iload C dX5_nextRow_94 0 rfl ?_
                          refine v_callMv C l_X5_186 (m_X5_swap b lf rt n_fa n_tr n_mi n_ju (nI L) n_cr n_at n_rm n_rj n_rc n_nw n_ov n_rl n_rd f2 (by omega) (by omega)) (by decide) dX5_nextRow_96 [0, 1] [] (wr := []) (by decide) rfl rfl (by decide) (by decide) 0 rfl rfl rfl (rest := []) rfl (Nat.le_of_ble_eq_true rfl) (by decide) (fun w15 h16 => ?_)
                          subst h16
                          refine v_ws0 [oN b n_fa n_tr n_mi n_ju (nI L) n_cr n_at n_rm n_rj n_rc n_nw n_ov n_rl n_rd, ia (b 28) cI 5 (upd (upd f2 lf (f2 rt)) rt (f2 lf))] rfl ?_
                          refine v_iinc C (nI (lf + 1)) [(3, .int (nI (lf + 1))), (4, .int (nI rt)), (0, .ref (b 0))] 1 dX5_nextRow_99 rfl (nI_inc _) (by decide) rfl ?_
                          refine v_iinc C (nI (rt - 1)) [(4, .int (nI (rt - 1))), (3, .int (nI (lf + 1))), (0, .ref (b 0))] 1 dX5_nextRow_102 rfl (nI_dec (by omega)) (by decide) rfl ?_
                          refine v_goto C 86 dX5_nextRow_105 (by decide) ?_
                          exact ihn_13 (lf + 1) (rt - 1) (fu - 1) (upd (upd f2 lf (f2 rt)) rt (f2 lf)) (swN g2 lf rt) (by omega) (by omega) (by omega) (by omega) (by omega) (sw_upd hf2 (by omega) (by omega)) (by rw [hg2]; exact rvN_step (by omega) (by omega))
                    refine v_loc [0, 1, 4] (lv' := [(4, .int (nI (L - 1))), (3, .int (nI (r + 1))), (0, .ref (b 0))]) rfl ?_
                    exact lr ((L - 1) - (r + 1) + 1) (r + 1) (L - 1) L (upd (upd n_rw r (n_rw w)) w (n_rw r)) (swN g r w) (by omega) (by omega) (by omega) (by omega) (by omega) hf1 rfl
                  · have nc8 : (g w) < (g r) := nI_ltD c8 (by omega)
                    have hwn : w ≠ r + 1 := by intro q; subst q; omega
                    have hwe : wtN g r (L - 1) = wtN g r (w - 1) := by rw [hw]; cases w with | zero => omega | succ w => rw [wtN, if_pos (by omega)]; rfl
                    refine v_iinc C (nI (w - 1)) [(2, .int (nI (w - 1))), (1, .int (nI r)), (0, .ref (b 0))] 0 dX5_nextRow_62 rfl (nI_dec (by omega)) (by decide) rfl ?_
                    refine v_goto C 47 dX5_nextRow_65 (by decide) ?_
                    exact ihn_7 (w - 1) (by omega) (by omega) (by omega) hwe
              exact lq ((L - 1) + 1) (L - 1) (by omega) (by omega) (by omega) rfl
            · have nc5 : r < 0 := nI_ltD c5 (by omega)
              exact absurd nc5 (by omega)
          · have nc4 : (g (r + 1)) < (g r) := nI_ltD c4 (by omega)
            have hrr : rsN g (L - 1) = rsN g r := by rw [hrs, rsN, if_pos (by omega)]
            refine v_iinc C (nI r + (-1)) [(1, .int (nI r + (-1))), (0, .ref (b 0))] 0 dX5_nextRow_28 rfl (rfl) (by decide) rfl ?_
            refine v_goto C 7 dX5_nextRow_31 (by decide) ?_
            exact ihn_2 r (by omega) (by omega) hrr
  exact lp ((L - 1) + 1) (L - 1) (by omega) (by omega) rfl
set_option maxHeartbeats 4000000 in
set_option maxRecDepth 100000 in
theorem m_X5_areSo {l : Launch} {D : va_G} {cI cB cS : ClassId} (b : Nat → Nat) (wl nj nc s0 st nr : Nat) (dn rn : Nat → Nat) (n_fa : Int32) (n_tr : Int32) (n_mi : Int32) (n_at : Int32) (n_rm : Int32) (n_rj : Int32) (n_rc : Int32) (n_nw : Int32) (n_ov : Int32) (n_rl : Int32) (n_kd : Nat → Int32) (n_ag : Nat → Int32) (n_hS : Nat → Int32) (n_iS : Nat → Int32) (n_iE : Nat → Int32) (n_de : Nat → Int32) (n_fr : Nat → Int32) (n_ho : Nat → Int32) (n_vd : Nat → Int32) (n_rw : Nat → Int32) (n_we : Nat → Int32) (n_rC : Nat → Int32) (n_rH : Nat → Int32) (hwl : wl < 64) (hnc : nc ≤ 5) (hnj : nj ≤ 5) (hhS : ∀ j, j < nj → n_hS j = bA s0 j) (hiS : ∀ j, j < nj → n_iS j = bA st j) (hde : ∀ c, c < nc → n_de c = nI (dn c) ∧ dn c < 6) (hnr : nr ≤ 8) (hrc : ∀ q, q < nr → n_rC q = nI (rn q) ∧ rn q < nc) : Mi l yX5_areSo cX5_areSo 2 (some .boolean) 6 133 D cI cB cS [.ref (b 0)] [oN b n_fa n_tr n_mi (nI nj) (nI nc) (nI wl) n_at n_rm n_rj n_rc n_nw n_ov n_rl (nI nr), ia (b 9) cI 5 n_kd, ia (b 10) cI 5 n_ag, ia (b 11) cB 5 n_hS, ia (b 12) cB 5 n_iS, ia (b 26) cB 5 n_iE, ia (b 13) cI 5 n_de, ia (b 14) cI 5 n_fr, ia (b 24) cI 5 n_ho, ia (b 25) cI 6 n_vd, ia (b 28) cI 5 n_rw, ia (b 15) cI 5 n_we, ia (b 31) cI 8 n_rC, ia (b 32) cI 8 n_rH] (fun r w => ∃ (nw' : Int32) (ov' : Int32) (ho' : Nat → Int32) (vd' : Nat → Int32) (iE' : Nat → Int32) (rl' : Int32) (rw' : Nat → Int32), r = bI (arB (sitS nj n_kd n_ag st wl dn n_fr n_we n_mi s0 (fun p => p) nc).1 rn n_rH nr = true) ∧ w = [oN b n_fa n_tr n_mi (nI nj) (nI nc) (nI wl) n_at n_rm n_rj n_rc nw' ov' rl' (nI nr), ia (b 9) cI 5 n_kd, ia (b 10) cI 5 n_ag, ia (b 11) cB 5 n_hS, ia (b 12) cB 5 n_iS, ia (b 26) cB 5 iE', ia (b 13) cI 5 n_de, ia (b 14) cI 5 n_fr, ia (b 24) cI 5 ho', ia (b 25) cI 6 vd', ia (b 28) cI 5 rw', ia (b 15) cI 5 n_we, ia (b 31) cI 8 n_rC, ia (b 32) cI 8 n_rH]) := by
  refine Mi.of (by decide) (Nat.le_of_ble_eq_true rfl) ?_
  intro zp ze zs zm zb zt zc zz zA hA C hnm
  refine v_lv0 [(0, .ref (b 0))] rfl ?_
  refine v_aload_n C dX5_areSo_0 0 rfl ?_
  refine v_callMi C l_X5_211 (m_X5_byNumbers b wl nj nc s0 st dn n_fa n_tr n_mi n_at n_rm n_rj n_rc n_nw n_ov n_rl (nI nr) n_kd n_ag n_hS n_iS n_iE n_de n_fr n_ho n_vd n_rw n_we (by assumption) (by assumption) (by assumption) (by assumption) (by assumption) (by assumption)) (by decide) dX5_areSo_1 [0, 1, 2, 3, 4, 5, 6, 7, 8, 9, 10, 11] [12, 13] (wr := [ia (b 31) cI 8 n_rC, ia (b 32) cI 8 n_rH]) (by decide) rfl rfl (by decide) (by decide) 0 rfl rfl rfl (rest := []) rfl (Nat.le_of_ble_eq_true rfl) (by decide) (fun r3 w1 h2 => ?_)
  obtain ⟨nw_4, ov_5, ho_6, vd_7, iE_8, rl_9, rw_10, rfl, rfl, hb11⟩ := h2
  refine v_ws0 [ia (b 31) cI 8 n_rC, ia (b 32) cI 8 n_rH, oN b n_fa n_tr n_mi (nI nj) (nI nc) (nI wl) n_at n_rm n_rj n_rc nw_4 ov_5 rl_9 (nI nr), ia (b 9) cI 5 n_kd, ia (b 10) cI 5 n_ag, ia (b 11) cB 5 n_hS, ia (b 12) cB 5 n_iS, ia (b 26) cB 5 iE_8, ia (b 13) cI 5 n_de, ia (b 14) cI 5 n_fr, ia (b 24) cI 5 ho_6, ia (b 25) cI 6 vd_7, ia (b 28) cI 5 rw_10, ia (b 15) cI 5 n_we] rfl ?_
  refine v_pop C dX5_areSo_4 rfl ?_
  refine v_iconst C 0 dX5_areSo_5 (by decide) ?_
  refine v_istore_n C [(1, .int 0), (0, .ref (b 0))] dX5_areSo_6 (by decide) rfl ?_
  refine v_perm (ws' := [oN b n_fa n_tr n_mi (nI nj) (nI nc) (nI wl) n_at n_rm n_rj n_rc nw_4 ov_5 rl_9 (nI nr), ia (b 9) cI 5 n_kd, ia (b 10) cI 5 n_ag, ia (b 11) cB 5 n_hS, ia (b 12) cB 5 n_iS, ia (b 26) cB 5 iE_8, ia (b 13) cI 5 n_de, ia (b 14) cI 5 n_fr, ia (b 24) cI 5 ho_6, ia (b 25) cI 6 vd_7, ia (b 28) cI 5 rw_10, ia (b 15) cI 5 n_we, ia (b 31) cI 8 n_rC, ia (b 32) cI 8 n_rH]) [2, 3, 4, 5, 6, 7, 8, 9, 10, 11, 12, 13, 0, 1] (by decide) rfl ?_
  have lp : ∀ (n_13 : Nat) (q : Nat), nr - q < n_13 → (q ≤ nr) → (arB (sitS nj n_kd n_ag st wl dn n_fr n_we n_mi s0 (fun p => p) nc).1 rn n_rH q = true) → V zp l ze (rmOf 6 133) zs zm [.ref (b 0)].toArray zb zt zc D (IM zA zs) (QMi zb [.ref (b 0)].toArray zs D cI cB cS [oN b n_fa n_tr n_mi (nI nj) (nI nc) (nI wl) n_at n_rm n_rj n_rc n_nw n_ov n_rl (nI nr), ia (b 9) cI 5 n_kd, ia (b 10) cI 5 n_ag, ia (b 11) cB 5 n_hS, ia (b 12) cB 5 n_iS, ia (b 26) cB 5 n_iE, ia (b 13) cI 5 n_de, ia (b 14) cI 5 n_fr, ia (b 24) cI 5 n_ho, ia (b 25) cI 6 n_vd, ia (b 28) cI 5 n_rw, ia (b 15) cI 5 n_we, ia (b 31) cI 8 n_rC, ia (b 32) cI 8 n_rH] zz (fun r w => ∃ (nw' : Int32) (ov' : Int32) (ho' : Nat → Int32) (vd' : Nat → Int32) (iE' : Nat → Int32) (rl' : Int32) (rw' : Nat → Int32), r = bI (arB (sitS nj n_kd n_ag st wl dn n_fr n_we n_mi s0 (fun p => p) nc).1 rn n_rH nr = true) ∧ w = [oN b n_fa n_tr n_mi (nI nj) (nI nc) (nI wl) n_at n_rm n_rj n_rc nw' ov' rl' (nI nr), ia (b 9) cI 5 n_kd, ia (b 10) cI 5 n_ag, ia (b 11) cB 5 n_hS, ia (b 12) cB 5 n_iS, ia (b 26) cB 5 iE', ia (b 13) cI 5 n_de, ia (b 14) cI 5 n_fr, ia (b 24) cI 5 ho', ia (b 25) cI 6 vd', ia (b 28) cI 5 rw', ia (b 15) cI 5 n_we, ia (b 31) cI 8 n_rC, ia (b 32) cI 8 n_rH])) 0 0 2 [oN b n_fa n_tr n_mi (nI nj) (nI nc) (nI wl) n_at n_rm n_rj n_rc nw_4 ov_5 rl_9 (nI nr), ia (b 9) cI 5 n_kd, ia (b 10) cI 5 n_ag, ia (b 11) cB 5 n_hS, ia (b 12) cB 5 n_iS, ia (b 26) cB 5 iE_8, ia (b 13) cI 5 n_de, ia (b 14) cI 5 n_fr, ia (b 24) cI 5 ho_6, ia (b 25) cI 6 vd_7, ia (b 28) cI 5 rw_10, ia (b 15) cI 5 n_we, ia (b 31) cI 8 n_rC, ia (b 32) cI 8 n_rH] [(1, .int (nI q)), (0, .ref (b 0))] 7 [] := by
    intro n_13
    induction n_13 with
    | zero => intro q b12; exact absurd b12 (by omega)
    | succ n_13 ihn_13 =>
      intro q b12 hq hq2
      refine v_iload_n C dX5_areSo_7 0 rfl ?_
      refine v_aload_n C dX5_areSo_8 1 rfl ?_
      refine v_get C f_X5_120 dX5_areSo_9 0 rfl rfl ?_
      refine v_icmp_ge C 43 dX5_areSo_12 (by decide) (fun c14 => ?_) (fun c14 => ?_)
      · have nc14 : nr ≤ q := nI_leD c14 (by omega)
        have hqe : q = nr := by omega
        rw [hqe] at hq2
        refine v_iconst C 1 dX5_areSo_43 (by decide) ?_
        exact v_reti C hA dX5_areSo_44 rfl (⟨_, _, _, _, _, _, _, by rw [hq2]; rfl, rfl⟩)
      · have nc14 : q < nr := nI_ltD c14 (by omega)
        have hqn : q < nr := nc14
        refine v_aload_n C dX5_areSo_15 1 rfl ?_
        refine v_get C f_X5_47 dX5_areSo_16 0 rfl rfl ?_
        refine v_aload_n C dX5_areSo_19 1 rfl ?_
        refine v_get C f_X5_62 dX5_areSo_20 0 rfl rfl ?_
        refine v_iload_n C dX5_areSo_23 0 rfl ?_
        refine v_ialdN C dX5_areSo_24 12 rfl q rfl (by omega) (by decide) ?_
        refine v_ialdN C dX5_areSo_25 8 rfl (rn q) (hrc q hqn).1 (by have := (hrc q hqn).2; omega) (by decide) ?_
        refine v_aload_n C dX5_areSo_26 1 rfl ?_
        refine v_get C f_X5_65 dX5_areSo_27 0 rfl rfl ?_
        refine v_iload_n C dX5_areSo_30 0 rfl ?_
        refine v_ialdN C dX5_areSo_31 13 rfl q rfl (by omega) (by decide) ?_
        refine v_icmp_eq C 37 dX5_areSo_32 (by decide) (fun c15 => ?_) (fun c15 => ?_)
        · have hh := c15
          rw [hb11 (rn q) (hrc q hqn).2] at hh
          refine v_iinc C (nI (q + 1)) [(1, .int (nI (q + 1))), (0, .ref (b 0))] 0 dX5_areSo_37 rfl (nI_inc _) (by decide) rfl ?_
          refine v_goto C 7 dX5_areSo_40 (by decide) ?_
          exact ihn_13 (q + 1) (by omega) (by omega) (by rw [arB, hq2, hh]; simp)
        · have hh := c15
          rw [hb11 (rn q) (hrc q hqn).2] at hh
          refine v_iconst C 0 dX5_areSo_35 (by decide) ?_
          exact v_reti C hA dX5_areSo_36 rfl (⟨_, _, _, _, _, _, _, by rw [arB_no hh nr hqn]; rfl, rfl⟩)
  exact lp (nr - 0 + 1) 0 (by omega) (by omega) rfl
