theorem bI_n0 {P : Prop} [Decidable P] (h : ¬ bI P = 0) : P := by
  by_cases q : P
  · exact q
  · exact absurd (bI_f q) h
theorem bI_0n {P : Prop} [Decidable P] (h : bI P = 0) : ¬ P := by
  intro q
  rw [bI_t q] at h
  exact absurd h (by decide)
theorem SM_0 {nj nc s0 : Nat} {tk ag : Nat → Int32} {st lw : Nat} {dn : Nat → Nat} {ta we : Nat → Int32} {si : Int32} {o : Nat → Nat} {ho vd iE : Nat → Int32} : SM nj nc s0 (sitS nj tk ag st lw dn ta we si s0 o 0) 0 0 (flF (-9) ho nc) (flF (-9) vd 6) (flF 0 iE nj) := by
  refine ⟨rfl, rfl, fun c hc => ?_, fun d hd => ?_, fun j hj => ?_⟩
  · simp [flF, hc, sitS]
  · simp [flF, hd, sitS]
  · simp [flF, hj, sitS]
set_option maxHeartbeats 4000000 in
set_option maxRecDepth 100000 in
theorem m_X5_tryCase {l : Launch} {D : va_G} {cI cB cS : ClassId} (b : Nat → Nat) (c wl nj nc s0 st : Nat) (q : SitT) (dn : Nat → Nat) (we : Nat → Int32) (n_fa : Int32) (n_tr : Int32) (n_mi : Int32) (n_at : Int32) (n_rm : Int32) (n_rj : Int32) (n_rc : Int32) (n_nw : Int32) (n_ov : Int32) (n_rl : Int32) (n_rd : Int32) (n_kd : Nat → Int32) (n_ag : Nat → Int32) (n_hS : Nat → Int32) (n_iS : Nat → Int32) (n_iE : Nat → Int32) (n_de : Nat → Int32) (n_fr : Nat → Int32) (n_ho : Nat → Int32) (n_vd : Nat → Int32) (hcn : c < nc) (hwl : wl < 64) (hnc : nc ≤ 5) (hnj : nj ≤ 5) (hhS : ∀ j, j < nj → n_hS j = bA s0 j) (hiS : ∀ j, j < nj → n_iS j = bA st j) (hde : ∀ c, c < nc → n_de c = nI (dn c) ∧ dn c < 6) (hSM : SM nj nc s0 q n_nw n_ov n_ho n_vd n_iE) : Mv l yX5_tryCase cX5_tryCase 4 3 69 D cI cB cS [.ref (b 0), .int (nI c)] [oN b n_fa n_tr n_mi (nI nj) (nI nc) (nI wl) n_at n_rm n_rj n_rc n_nw n_ov n_rl n_rd, ia (b 9) cI 5 n_kd, ia (b 10) cI 5 n_ag, ia (b 11) cB 5 n_hS, ia (b 12) cB 5 n_iS, ia (b 26) cB 5 n_iE, ia (b 13) cI 5 n_de, ia (b 14) cI 5 n_fr, ia (b 24) cI 5 n_ho, ia (b 25) cI 6 n_vd] (fun w => ∃ (nw' : Int32) (ov' : Int32) (ho' : Nat → Int32) (vd' : Nat → Int32) (iE' : Nat → Int32), w = [oN b n_fa n_tr n_mi (nI nj) (nI nc) (nI wl) n_at n_rm n_rj n_rc nw' ov' n_rl n_rd, ia (b 9) cI 5 n_kd, ia (b 10) cI 5 n_ag, ia (b 11) cB 5 n_hS, ia (b 12) cB 5 n_iS, ia (b 26) cB 5 iE', ia (b 13) cI 5 n_de, ia (b 14) cI 5 n_fr, ia (b 24) cI 5 ho', ia (b 25) cI 6 vd'] ∧ SM nj nc s0 (sitStep nj n_kd n_ag st wl dn n_fr we n_mi q c) nw' ov' ho' vd' iE') := by
  refine Mv.of (by decide) (Nat.le_of_ble_eq_true rfl) ?_
  intro zp ze zs zm zb zt zc zz zA hA C hnm
  refine v_lv0 [(0, .ref (b 0)), (1, .int (nI c))] rfl ?_
  have hd0 := hde c hcn
  obtain ⟨s1, s2, s3, s4, s5⟩ := id hSM
  have hvd := s4 (dn c) hd0.2
  refine v_aload_n C dX5_tryCase_0 0 rfl ?_
  refine v_get C f_X5_32 dX5_tryCase_1 0 rfl rfl ?_
  refine v_iload_n C dX5_tryCase_4 1 rfl ?_
  refine v_ialdN C dX5_tryCase_5 6 rfl c rfl (by omega) (by decide) ?_
  refine v_eqi (nI (dn c)) (hd0.1) ?_
  refine v_istore_n C [(2, .int (nI (dn c))), (0, .ref (b 0)), (1, .int (nI c))] dX5_tryCase_6 (by decide) rfl ?_
  refine v_aload_n C dX5_tryCase_7 1 rfl ?_
  refine v_get C f_X5_50 dX5_tryCase_8 0 rfl rfl ?_
  refine v_iload_n C dX5_tryCase_11 0 rfl ?_
  refine v_ialdN C dX5_tryCase_12 9 rfl (dn c) rfl (by omega) (by decide) ?_
  refine v_bipush C (-9) dX5_tryCase_13 (by decide) ?_
  refine v_icmp_ne C 27 dX5_tryCase_15 (by decide) (fun c1 => ?_) (fun c1 => ?_)
  · refine v_iconst C 1 dX5_tryCase_27 (by decide) ?_
    refine v_istore_n C [(3, .int 1), (2, .int (nI (dn c))), (0, .ref (b 0)), (1, .int (nI c))] dX5_tryCase_28 (by decide) rfl ?_
    refine v_aload_n C dX5_tryCase_29 2 rfl ?_
    refine v_aload_n C dX5_tryCase_30 2 rfl ?_
    refine v_get C f_X5_149 dX5_tryCase_31 0 rfl rfl ?_
    refine v_if_ne C 50 dX5_tryCase_34 (by decide) (fun c2 => ?_) (fun c2 => ?_)
    · refine v_iconst C 1 dX5_tryCase_50 (by decide) ?_
      refine v_goto C 55 dX5_tryCase_51 (by decide) ?_
      refine v_put C p_X5_149 [oN b n_fa n_tr n_mi (nI nj) (nI nc) (nI wl) n_at n_rm n_rj n_rc n_nw 1 n_rl n_rd, ia (b 9) cI 5 n_kd, ia (b 10) cI 5 n_ag, ia (b 11) cB 5 n_hS, ia (b 12) cB 5 n_iS, ia (b 26) cB 5 n_iE, ia (b 13) cI 5 n_de, ia (b 14) cI 5 n_fr, ia (b 24) cI 5 n_ho, ia (b 25) cI 6 n_vd] dX5_tryCase_55 0 rfl rfl rfl (Nat.le_of_ble_eq_true rfl) rfl ?_
      refine v_aload_n C dX5_tryCase_58 2 rfl ?_
      refine v_get C f_X5_149 dX5_tryCase_59 0 rfl rfl ?_
      refine v_if_eq C 73 dX5_tryCase_62 (by decide) (fun h => absurd h (by decide)) (fun _ => ?_)
      refine v_aload_n C dX5_tryCase_65 2 rfl ?_
      refine v_get C f_X5_47 dX5_tryCase_66 0 rfl rfl ?_
      refine v_iload_n C dX5_tryCase_69 3 rfl ?_
      refine v_iconst C 2 dX5_tryCase_70 (by decide) ?_
      refine v_iastN C [oN b n_fa n_tr n_mi (nI nj) (nI nc) (nI wl) n_at n_rm n_rj n_rc n_nw 1 n_rl n_rd, ia (b 9) cI 5 n_kd, ia (b 10) cI 5 n_ag, ia (b 11) cB 5 n_hS, ia (b 12) cB 5 n_iS, ia (b 26) cB 5 n_iE, ia (b 13) cI 5 n_de, ia (b 14) cI 5 n_fr, ia (b 24) cI 5 (upd n_ho c 2), ia (b 25) cI 6 n_vd] dX5_tryCase_71 8 rfl c rfl (by omega) (by decide) rfl ?_
      exact v_retv C hA dX5_tryCase_72 (⟨_, _, _, _, _, rfl, SM_home hSM (Or.inl (bI_n0 (by rw [← s2]; exact c2)))⟩)
    · refine v_aload_n C dX5_tryCase_37 2 rfl ?_
      refine v_get C f_X5_146 dX5_tryCase_38 0 rfl rfl ?_
      refine v_iload_n C dX5_tryCase_41 0 rfl ?_
      refine v_iadd C dX5_tryCase_42 ?_
      refine v_aload_n C dX5_tryCase_43 2 rfl ?_
      refine v_get C f_X5_108 dX5_tryCase_44 0 rfl rfl ?_
      refine v_icmp_le C 54 dX5_tryCase_47 (by decide) (fun c3 => ?_) (fun c3 => ?_)
      · refine v_iconst C 0 dX5_tryCase_54 (by decide) ?_
        refine v_put C p_X5_149 [oN b n_fa n_tr n_mi (nI nj) (nI nc) (nI wl) n_at n_rm n_rj n_rc n_nw 0 n_rl n_rd, ia (b 9) cI 5 n_kd, ia (b 10) cI 5 n_ag, ia (b 11) cB 5 n_hS, ia (b 12) cB 5 n_iS, ia (b 26) cB 5 n_iE, ia (b 13) cI 5 n_de, ia (b 14) cI 5 n_fr, ia (b 24) cI 5 n_ho, ia (b 25) cI 6 n_vd] dX5_tryCase_55 0 rfl rfl rfl (Nat.le_of_ble_eq_true rfl) rfl ?_
        refine v_aload_n C dX5_tryCase_58 2 rfl ?_
        refine v_get C f_X5_149 dX5_tryCase_59 0 rfl rfl ?_
        refine v_if_eq C 73 dX5_tryCase_62 (by decide) (fun _ => ?_) (fun h => absurd h (by decide))
        refine v_aload_n C dX5_tryCase_73 2 rfl ?_
        refine v_dup C dX5_tryCase_74 rfl ?_
        refine v_get C f_X5_146 dX5_tryCase_75 0 rfl rfl ?_
        refine v_iload_n C dX5_tryCase_78 0 rfl ?_
        refine v_iadd C dX5_tryCase_79 ?_
        refine v_put C p_X5_146 [oN b n_fa n_tr n_mi (nI nj) (nI nc) (nI wl) n_at n_rm n_rj n_rc (n_nw + 1) 0 n_rl n_rd, ia (b 9) cI 5 n_kd, ia (b 10) cI 5 n_ag, ia (b 11) cB 5 n_hS, ia (b 12) cB 5 n_iS, ia (b 26) cB 5 n_iE, ia (b 13) cI 5 n_de, ia (b 14) cI 5 n_fr, ia (b 24) cI 5 n_ho, ia (b 25) cI 6 n_vd] dX5_tryCase_80 0 rfl rfl rfl (Nat.le_of_ble_eq_true rfl) rfl ?_
        refine v_aload_n C dX5_tryCase_83 2 rfl ?_
        refine v_get C f_X5_50 dX5_tryCase_84 0 rfl rfl ?_
        refine v_iload_n C dX5_tryCase_87 1 rfl ?_
        refine v_aload_n C dX5_tryCase_88 2 rfl ?_
        refine v_get C f_X5_50 dX5_tryCase_89 0 rfl rfl ?_
        refine v_iload_n C dX5_tryCase_92 1 rfl ?_
        refine v_ialdN C dX5_tryCase_93 9 rfl (dn c) rfl (by omega) (by decide) ?_
        refine v_bipush C (-9) dX5_tryCase_94 (by decide) ?_
        refine v_icmp_ne C 107 dX5_tryCase_96 (by decide) (fun c4 => ?_) (fun c4 => ?_)
        · refine v_aload_n C dX5_tryCase_107 2 rfl ?_
          refine v_get C f_X5_50 dX5_tryCase_108 0 rfl rfl ?_
          refine v_iload_n C dX5_tryCase_111 1 rfl ?_
          refine v_ialdN C dX5_tryCase_112 9 rfl (dn c) rfl (by omega) (by decide) ?_
          refine v_iastN C [oN b n_fa n_tr n_mi (nI nj) (nI nc) (nI wl) n_at n_rm n_rj n_rc (n_nw + 1) 0 n_rl n_rd, ia (b 9) cI 5 n_kd, ia (b 10) cI 5 n_ag, ia (b 11) cB 5 n_hS, ia (b 12) cB 5 n_iS, ia (b 26) cB 5 n_iE, ia (b 13) cI 5 n_de, ia (b 14) cI 5 n_fr, ia (b 24) cI 5 n_ho, ia (b 25) cI 6 (upd n_vd (dn c) (n_vd (dn c)))] dX5_tryCase_113 9 rfl (dn c) rfl (by omega) (by decide) rfl ?_
          refine v_aload_n C dX5_tryCase_114 2 rfl ?_
          refine v_get C f_X5_47 dX5_tryCase_115 0 rfl rfl ?_
          refine v_iload_n C dX5_tryCase_118 3 rfl ?_
          refine v_aload_n C dX5_tryCase_119 2 rfl ?_
          refine v_get C f_X5_50 dX5_tryCase_120 0 rfl rfl ?_
          refine v_iload_n C dX5_tryCase_123 1 rfl ?_
          refine v_ialdN C dX5_tryCase_124 9 rfl (dn c) rfl (by omega) (by decide) ?_
          refine v_iastN C [oN b n_fa n_tr n_mi (nI nj) (nI nc) (nI wl) n_at n_rm n_rj n_rc (n_nw + 1) 0 n_rl n_rd, ia (b 9) cI 5 n_kd, ia (b 10) cI 5 n_ag, ia (b 11) cB 5 n_hS, ia (b 12) cB 5 n_iS, ia (b 26) cB 5 n_iE, ia (b 13) cI 5 n_de, ia (b 14) cI 5 n_fr, ia (b 24) cI 5 (upd n_ho c ((upd n_vd (dn c) (n_vd (dn c))) (dn c))), ia (b 25) cI 6 (upd n_vd (dn c) (n_vd (dn c)))] dX5_tryCase_125 8 rfl c rfl (by omega) (by decide) rfl ?_
          exact v_retv C hA dX5_tryCase_126 (⟨_, _, _, _, _, rfl, (by have t := SM_again (tk := n_kd) (ag := n_ag) (st := st) (lw := wl) (dn := dn) (ta := n_fr) (we := we) (si := n_mi) (q := q) (c := c) hSM (fun z => z.elim (fun z => bI_0n (by rw [← s2]; exact c2) z) (fun z => z (by rw [← s1, if_neg (by rw [← hvd]; exact c1)]; exact c3))) (by rw [← hvd]; exact c1) hd0.2; rw [upd_at]; exact t)⟩)
        · exact absurd c4 c1
      · refine v_iconst C 1 dX5_tryCase_50 (by decide) ?_
        refine v_goto C 55 dX5_tryCase_51 (by decide) ?_
        refine v_put C p_X5_149 [oN b n_fa n_tr n_mi (nI nj) (nI nc) (nI wl) n_at n_rm n_rj n_rc n_nw 1 n_rl n_rd, ia (b 9) cI 5 n_kd, ia (b 10) cI 5 n_ag, ia (b 11) cB 5 n_hS, ia (b 12) cB 5 n_iS, ia (b 26) cB 5 n_iE, ia (b 13) cI 5 n_de, ia (b 14) cI 5 n_fr, ia (b 24) cI 5 n_ho, ia (b 25) cI 6 n_vd] dX5_tryCase_55 0 rfl rfl rfl (Nat.le_of_ble_eq_true rfl) rfl ?_
        refine v_aload_n C dX5_tryCase_58 2 rfl ?_
        refine v_get C f_X5_149 dX5_tryCase_59 0 rfl rfl ?_
        refine v_if_eq C 73 dX5_tryCase_62 (by decide) (fun h => absurd h (by decide)) (fun _ => ?_)
        refine v_aload_n C dX5_tryCase_65 2 rfl ?_
        refine v_get C f_X5_47 dX5_tryCase_66 0 rfl rfl ?_
        refine v_iload_n C dX5_tryCase_69 3 rfl ?_
        refine v_iconst C 2 dX5_tryCase_70 (by decide) ?_
        refine v_iastN C [oN b n_fa n_tr n_mi (nI nj) (nI nc) (nI wl) n_at n_rm n_rj n_rc n_nw 1 n_rl n_rd, ia (b 9) cI 5 n_kd, ia (b 10) cI 5 n_ag, ia (b 11) cB 5 n_hS, ia (b 12) cB 5 n_iS, ia (b 26) cB 5 n_iE, ia (b 13) cI 5 n_de, ia (b 14) cI 5 n_fr, ia (b 24) cI 5 (upd n_ho c 2), ia (b 25) cI 6 n_vd] dX5_tryCase_71 8 rfl c rfl (by omega) (by decide) rfl ?_
        exact v_retv C hA dX5_tryCase_72 (⟨_, _, _, _, _, rfl, SM_home hSM (Or.inr (by rw [← s1, if_neg (by rw [← hvd]; exact c1)]; exact c3))⟩)
  · refine v_aload_n C dX5_tryCase_18 1 rfl ?_
    refine v_get C f_X5_35 dX5_tryCase_19 0 rfl rfl ?_
    refine v_iload_n C dX5_tryCase_22 2 rfl ?_
    refine v_ialdN C dX5_tryCase_23 7 rfl c rfl (by omega) (by decide) ?_
    refine v_goto C 28 dX5_tryCase_24 (by decide) ?_
    refine v_istore_n C [(3, .int (n_fr c)), (2, .int (nI (dn c))), (0, .ref (b 0)), (1, .int (nI c))] dX5_tryCase_28 (by decide) rfl ?_
    refine v_aload_n C dX5_tryCase_29 2 rfl ?_
    refine v_aload_n C dX5_tryCase_30 2 rfl ?_
    refine v_get C f_X5_149 dX5_tryCase_31 0 rfl rfl ?_
    refine v_if_ne C 50 dX5_tryCase_34 (by decide) (fun c5 => ?_) (fun c5 => ?_)
    · refine v_iconst C 1 dX5_tryCase_50 (by decide) ?_
      refine v_goto C 55 dX5_tryCase_51 (by decide) ?_
      refine v_put C p_X5_149 [oN b n_fa n_tr n_mi (nI nj) (nI nc) (nI wl) n_at n_rm n_rj n_rc n_nw 1 n_rl n_rd, ia (b 9) cI 5 n_kd, ia (b 10) cI 5 n_ag, ia (b 11) cB 5 n_hS, ia (b 12) cB 5 n_iS, ia (b 26) cB 5 n_iE, ia (b 13) cI 5 n_de, ia (b 14) cI 5 n_fr, ia (b 24) cI 5 n_ho, ia (b 25) cI 6 n_vd] dX5_tryCase_55 0 rfl rfl rfl (Nat.le_of_ble_eq_true rfl) rfl ?_
      refine v_aload_n C dX5_tryCase_58 2 rfl ?_
      refine v_get C f_X5_149 dX5_tryCase_59 0 rfl rfl ?_
      refine v_if_eq C 73 dX5_tryCase_62 (by decide) (fun h => absurd h (by decide)) (fun _ => ?_)
      refine v_aload_n C dX5_tryCase_65 2 rfl ?_
      refine v_get C f_X5_47 dX5_tryCase_66 0 rfl rfl ?_
      refine v_iload_n C dX5_tryCase_69 3 rfl ?_
      refine v_iconst C 2 dX5_tryCase_70 (by decide) ?_
      refine v_iastN C [oN b n_fa n_tr n_mi (nI nj) (nI nc) (nI wl) n_at n_rm n_rj n_rc n_nw 1 n_rl n_rd, ia (b 9) cI 5 n_kd, ia (b 10) cI 5 n_ag, ia (b 11) cB 5 n_hS, ia (b 12) cB 5 n_iS, ia (b 26) cB 5 n_iE, ia (b 13) cI 5 n_de, ia (b 14) cI 5 n_fr, ia (b 24) cI 5 (upd n_ho c 2), ia (b 25) cI 6 n_vd] dX5_tryCase_71 8 rfl c rfl (by omega) (by decide) rfl ?_
      exact v_retv C hA dX5_tryCase_72 (⟨_, _, _, _, _, rfl, SM_home hSM (Or.inl (bI_n0 (by rw [← s2]; exact c5)))⟩)
    · refine v_aload_n C dX5_tryCase_37 2 rfl ?_
      refine v_get C f_X5_146 dX5_tryCase_38 0 rfl rfl ?_
      refine v_iload_n C dX5_tryCase_41 0 rfl ?_
      refine v_iadd C dX5_tryCase_42 ?_
      refine v_aload_n C dX5_tryCase_43 2 rfl ?_
      refine v_get C f_X5_108 dX5_tryCase_44 0 rfl rfl ?_
      refine v_icmp_le C 54 dX5_tryCase_47 (by decide) (fun c6 => ?_) (fun c6 => ?_)
      · refine v_iconst C 0 dX5_tryCase_54 (by decide) ?_
        refine v_put C p_X5_149 [oN b n_fa n_tr n_mi (nI nj) (nI nc) (nI wl) n_at n_rm n_rj n_rc n_nw 0 n_rl n_rd, ia (b 9) cI 5 n_kd, ia (b 10) cI 5 n_ag, ia (b 11) cB 5 n_hS, ia (b 12) cB 5 n_iS, ia (b 26) cB 5 n_iE, ia (b 13) cI 5 n_de, ia (b 14) cI 5 n_fr, ia (b 24) cI 5 n_ho, ia (b 25) cI 6 n_vd] dX5_tryCase_55 0 rfl rfl rfl (Nat.le_of_ble_eq_true rfl) rfl ?_
        refine v_aload_n C dX5_tryCase_58 2 rfl ?_
        refine v_get C f_X5_149 dX5_tryCase_59 0 rfl rfl ?_
        refine v_if_eq C 73 dX5_tryCase_62 (by decide) (fun _ => ?_) (fun h => absurd h (by decide))
        refine v_aload_n C dX5_tryCase_73 2 rfl ?_
        refine v_dup C dX5_tryCase_74 rfl ?_
        refine v_get C f_X5_146 dX5_tryCase_75 0 rfl rfl ?_
        refine v_iload_n C dX5_tryCase_78 0 rfl ?_
        refine v_iadd C dX5_tryCase_79 ?_
        refine v_put C p_X5_146 [oN b n_fa n_tr n_mi (nI nj) (nI nc) (nI wl) n_at n_rm n_rj n_rc (n_nw + (n_fr c)) 0 n_rl n_rd, ia (b 9) cI 5 n_kd, ia (b 10) cI 5 n_ag, ia (b 11) cB 5 n_hS, ia (b 12) cB 5 n_iS, ia (b 26) cB 5 n_iE, ia (b 13) cI 5 n_de, ia (b 14) cI 5 n_fr, ia (b 24) cI 5 n_ho, ia (b 25) cI 6 n_vd] dX5_tryCase_80 0 rfl rfl rfl (Nat.le_of_ble_eq_true rfl) rfl ?_
        refine v_aload_n C dX5_tryCase_83 2 rfl ?_
        refine v_get C f_X5_50 dX5_tryCase_84 0 rfl rfl ?_
        refine v_iload_n C dX5_tryCase_87 1 rfl ?_
        refine v_aload_n C dX5_tryCase_88 2 rfl ?_
        refine v_get C f_X5_50 dX5_tryCase_89 0 rfl rfl ?_
        refine v_iload_n C dX5_tryCase_92 1 rfl ?_
        refine v_ialdN C dX5_tryCase_93 9 rfl (dn c) rfl (by omega) (by decide) ?_
        refine v_bipush C (-9) dX5_tryCase_94 (by decide) ?_
        refine v_icmp_ne C 107 dX5_tryCase_96 (by decide) (fun c7 => ?_) (fun c7 => ?_)
        · exact absurd c1 c7
        · refine v_aload_n C dX5_tryCase_99 2 rfl ?_
          refine v_iload_n C dX5_tryCase_100 3 rfl ?_
          refine v_callMi C l_X5_160 (m_X5_verdictOf b wl c (dn c) nj s0 q.2.2.1 st n_fa n_tr n_mi (nI nc) n_at n_rm n_rj n_rc (n_nw + (n_fr c)) 0 n_rl n_rd n_kd n_ag n_hS n_iS n_iE n_de (by omega) hd0.1 hd0.2 (by assumption) (by assumption) (by assumption) (by assumption) s5) (by decide) dX5_tryCase_101 [0, 1, 2, 3, 4, 5, 6] [7, 8, 9] (wr := [ia (b 14) cI 5 n_fr, ia (b 24) cI 5 n_ho, ia (b 25) cI 6 n_vd]) (by decide) rfl rfl (by decide) (by decide) 0 rfl rfl rfl (rest := [.int (nI (dn c)), .ref (b 25)]) rfl (Nat.le_of_ble_eq_true rfl) (by decide) (fun r10 w8 h9 => ?_)
          obtain ⟨iE_11, rfl, rfl, he12⟩ := h9
          refine v_ws0 [ia (b 14) cI 5 n_fr, ia (b 24) cI 5 n_ho, ia (b 25) cI 6 n_vd, oN b n_fa n_tr n_mi (nI nj) (nI nc) (nI wl) n_at n_rm n_rj n_rc (n_nw + (n_fr c)) 0 n_rl n_rd, ia (b 9) cI 5 n_kd, ia (b 10) cI 5 n_ag, ia (b 11) cB 5 n_hS, ia (b 12) cB 5 n_iS, ia (b 26) cB 5 iE_11, ia (b 13) cI 5 n_de] rfl ?_
          refine v_goto C 113 dX5_tryCase_104 (by decide) ?_
          refine v_iastN C [ia (b 14) cI 5 n_fr, ia (b 24) cI 5 n_ho, ia (b 25) cI 6 (upd n_vd (dn c) (vdF nj n_kd n_ag q.2.2.1 st (wl.testBit (dn c)) (n_nw + (n_fr c)))), oN b n_fa n_tr n_mi (nI nj) (nI nc) (nI wl) n_at n_rm n_rj n_rc (n_nw + (n_fr c)) 0 n_rl n_rd, ia (b 9) cI 5 n_kd, ia (b 10) cI 5 n_ag, ia (b 11) cB 5 n_hS, ia (b 12) cB 5 n_iS, ia (b 26) cB 5 iE_11, ia (b 13) cI 5 n_de] dX5_tryCase_113 2 rfl (dn c) rfl (by omega) (by decide) rfl ?_
          refine v_aload_n C dX5_tryCase_114 2 rfl ?_
          refine v_get C f_X5_47 dX5_tryCase_115 3 rfl rfl ?_
          refine v_iload_n C dX5_tryCase_118 3 rfl ?_
          refine v_aload_n C dX5_tryCase_119 2 rfl ?_
          refine v_get C f_X5_50 dX5_tryCase_120 3 rfl rfl ?_
          refine v_iload_n C dX5_tryCase_123 1 rfl ?_
          refine v_ialdN C dX5_tryCase_124 2 rfl (dn c) rfl (by omega) (by decide) ?_
          refine v_iastN C [ia (b 14) cI 5 n_fr, ia (b 24) cI 5 (upd n_ho c ((upd n_vd (dn c) (vdF nj n_kd n_ag q.2.2.1 st (wl.testBit (dn c)) (n_nw + (n_fr c)))) (dn c))), ia (b 25) cI 6 (upd n_vd (dn c) (vdF nj n_kd n_ag q.2.2.1 st (wl.testBit (dn c)) (n_nw + (n_fr c)))), oN b n_fa n_tr n_mi (nI nj) (nI nc) (nI wl) n_at n_rm n_rj n_rc (n_nw + (n_fr c)) 0 n_rl n_rd, ia (b 9) cI 5 n_kd, ia (b 10) cI 5 n_ag, ia (b 11) cB 5 n_hS, ia (b 12) cB 5 n_iS, ia (b 26) cB 5 iE_11, ia (b 13) cI 5 n_de] dX5_tryCase_125 1 rfl c rfl (by omega) (by decide) rfl ?_
          refine v_perm (ws' := [oN b n_fa n_tr n_mi (nI nj) (nI nc) (nI wl) n_at n_rm n_rj n_rc (n_nw + (n_fr c)) 0 n_rl n_rd, ia (b 9) cI 5 n_kd, ia (b 10) cI 5 n_ag, ia (b 11) cB 5 n_hS, ia (b 12) cB 5 n_iS, ia (b 26) cB 5 iE_11, ia (b 13) cI 5 n_de, ia (b 14) cI 5 n_fr, ia (b 24) cI 5 (upd n_ho c ((upd n_vd (dn c) (vdF nj n_kd n_ag q.2.2.1 st (wl.testBit (dn c)) (n_nw + (n_fr c)))) (dn c))), ia (b 25) cI 6 (upd n_vd (dn c) (vdF nj n_kd n_ag q.2.2.1 st (wl.testBit (dn c)) (n_nw + (n_fr c))))]) [3, 4, 5, 6, 7, 8, 9, 0, 1, 2] (by decide) rfl ?_
          exact v_retv C hA dX5_tryCase_126 (⟨_, _, _, _, _, rfl, (by have t := SM_first (tk := n_kd) (ag := n_ag) (st := st) (lw := wl) (dn := dn) (ta := n_fr) (we := we) (si := n_mi) (q := q) (c := c) hSM (fun z => z.elim (fun z => bI_0n (by rw [← s2]; exact c5) z) (fun z => z (by rw [← s1, if_pos (by rw [← hvd]; exact c1)]; exact c6))) (by rw [← hvd]; exact c1) he12; rw [upd_at]; exact t)⟩)
      · refine v_iconst C 1 dX5_tryCase_50 (by decide) ?_
        refine v_goto C 55 dX5_tryCase_51 (by decide) ?_
        refine v_put C p_X5_149 [oN b n_fa n_tr n_mi (nI nj) (nI nc) (nI wl) n_at n_rm n_rj n_rc n_nw 1 n_rl n_rd, ia (b 9) cI 5 n_kd, ia (b 10) cI 5 n_ag, ia (b 11) cB 5 n_hS, ia (b 12) cB 5 n_iS, ia (b 26) cB 5 n_iE, ia (b 13) cI 5 n_de, ia (b 14) cI 5 n_fr, ia (b 24) cI 5 n_ho, ia (b 25) cI 6 n_vd] dX5_tryCase_55 0 rfl rfl rfl (Nat.le_of_ble_eq_true rfl) rfl ?_
        refine v_aload_n C dX5_tryCase_58 2 rfl ?_
        refine v_get C f_X5_149 dX5_tryCase_59 0 rfl rfl ?_
        refine v_if_eq C 73 dX5_tryCase_62 (by decide) (fun h => absurd h (by decide)) (fun _ => ?_)
        refine v_aload_n C dX5_tryCase_65 2 rfl ?_
        refine v_get C f_X5_47 dX5_tryCase_66 0 rfl rfl ?_
        refine v_iload_n C dX5_tryCase_69 3 rfl ?_
        refine v_iconst C 2 dX5_tryCase_70 (by decide) ?_
        refine v_iastN C [oN b n_fa n_tr n_mi (nI nj) (nI nc) (nI wl) n_at n_rm n_rj n_rc n_nw 1 n_rl n_rd, ia (b 9) cI 5 n_kd, ia (b 10) cI 5 n_ag, ia (b 11) cB 5 n_hS, ia (b 12) cB 5 n_iS, ia (b 26) cB 5 n_iE, ia (b 13) cI 5 n_de, ia (b 14) cI 5 n_fr, ia (b 24) cI 5 (upd n_ho c 2), ia (b 25) cI 6 n_vd] dX5_tryCase_71 8 rfl c rfl (by omega) (by decide) rfl ?_
        exact v_retv C hA dX5_tryCase_72 (⟨_, _, _, _, _, rfl, SM_home hSM (Or.inr (by rw [← s1, if_pos (by rw [← hvd]; exact c1)]; exact c6))⟩)
set_option maxHeartbeats 4000000 in
set_option maxRecDepth 100000 in
theorem m_X5_begin {l : Launch} {D : va_G} {cI cB cS : ClassId} (b : Nat → Nat) (nj nc : Nat) (n_fa : Int32) (n_tr : Int32) (n_mi : Int32) (n_cr : Int32) (n_at : Int32) (n_rm : Int32) (n_rj : Int32) (n_rc : Int32) (n_nw : Int32) (n_ov : Int32) (n_rl : Int32) (n_rd : Int32) (n_ho : Nat → Int32) (n_vd : Nat → Int32) (n_iE : Nat → Int32) (hnj : nj ≤ 5) (hnc : nc ≤ 5) : Mv l yX5_begin cX5_begin 2 0 0 D cI cB cS [.ref (b 0)] [oN b n_fa n_tr n_mi (nI nj) (nI nc) n_cr n_at n_rm n_rj n_rc n_nw n_ov n_rl n_rd, ia (b 24) cI 5 n_ho, ia (b 25) cI 6 n_vd, ia (b 26) cB 5 n_iE] (fun w => w = [oN b n_fa n_tr n_mi (nI nj) (nI nc) n_cr n_at n_rm n_rj n_rc 0 0 n_rl n_rd, ia (b 24) cI 5 (flF (-9) n_ho nc), ia (b 25) cI 6 (flF (-9) n_vd 6), ia (b 26) cB 5 (flF 0 n_iE nj)]) := by
  refine Mv.of (by decide) (Nat.le_of_ble_eq_true rfl) ?_
  intro zp ze zs zm zb zt zc zz zA hA C hnm
  refine v_lv0 [(0, .ref (b 0))] rfl ?_
  refine v_aload_n C dX5_begin_0 0 rfl ?_
  refine v_iconst C 0 dX5_begin_1 (by decide) ?_
  refine v_put C p_X5_146 [oN b n_fa n_tr n_mi (nI nj) (nI nc) n_cr n_at n_rm n_rj n_rc 0 n_ov n_rl n_rd, ia (b 24) cI 5 n_ho, ia (b 25) cI 6 n_vd, ia (b 26) cB 5 n_iE] dX5_begin_2 0 rfl rfl rfl (Nat.le_of_ble_eq_true rfl) rfl ?_
  refine v_aload_n C dX5_begin_5 0 rfl ?_
  refine v_iconst C 0 dX5_begin_6 (by decide) ?_
  refine v_put C p_X5_149 [oN b n_fa n_tr n_mi (nI nj) (nI nc) n_cr n_at n_rm n_rj n_rc 0 0 n_rl n_rd, ia (b 24) cI 5 n_ho, ia (b 25) cI 6 n_vd, ia (b 26) cB 5 n_iE] dX5_begin_7 0 rfl rfl rfl (Nat.le_of_ble_eq_true rfl) rfl ?_
  refine v_iconst C 0 dX5_begin_10 (by decide) ?_
  refine v_istore_n C [(1, .int 0), (0, .ref (b 0))] dX5_begin_11 (by decide) rfl ?_
  refine v_ws0 [oN b n_fa n_tr n_mi (nI nj) (nI nc) n_cr n_at n_rm n_rj n_rc 0 0 n_rl n_rd, ia (b 24) cI 5 (flF (-9) n_ho 0), ia (b 25) cI 6 n_vd, ia (b 26) cB 5 n_iE] (by rw [flF_0]) ?_
  have l1 : ∀ (n_2 : Nat) (c : Nat), nc - c < n_2 → (c ≤ nc) → V zp l ze (rmOf 0 0) zs zm [.ref (b 0)].toArray zb zt zc D (IM zA zs) (QMv zb [.ref (b 0)].toArray zs D cI cB cS [oN b n_fa n_tr n_mi (nI nj) (nI nc) n_cr n_at n_rm n_rj n_rc n_nw n_ov n_rl n_rd, ia (b 24) cI 5 n_ho, ia (b 25) cI 6 n_vd, ia (b 26) cB 5 n_iE] zz (fun w => w = [oN b n_fa n_tr n_mi (nI nj) (nI nc) n_cr n_at n_rm n_rj n_rc 0 0 n_rl n_rd, ia (b 24) cI 5 (flF (-9) n_ho nc), ia (b 25) cI 6 (flF (-9) n_vd 6), ia (b 26) cB 5 (flF 0 n_iE nj)])) 0 0 2 [oN b n_fa n_tr n_mi (nI nj) (nI nc) n_cr n_at n_rm n_rj n_rc 0 0 n_rl n_rd, ia (b 24) cI 5 (flF (-9) n_ho c), ia (b 25) cI 6 n_vd, ia (b 26) cB 5 n_iE] [(1, .int (nI c)), (0, .ref (b 0))] 12 [] := by
    intro n_2
    induction n_2 with
    | zero => intro c b1; exact absurd b1 (by omega)
    | succ n_2 ihn_2 =>
      intro c b1 hc
      refine v_iload_n C dX5_begin_12 0 rfl ?_
      refine v_aload_n C dX5_begin_13 1 rfl ?_
      refine v_get C f_X5_81 dX5_begin_14 0 rfl rfl ?_
      refine v_icmp_ge C 34 dX5_begin_17 (by decide) (fun c3 => ?_) (fun c3 => ?_)
      · have nc3 : nc ≤ c := nI_leD c3 (by omega)
        have hce : c = nc := by omega
        refine v_ws0 [oN b n_fa n_tr n_mi (nI nj) (nI nc) n_cr n_at n_rm n_rj n_rc 0 0 n_rl n_rd, ia (b 24) cI 5 (flF (-9) n_ho nc), ia (b 25) cI 6 n_vd, ia (b 26) cB 5 n_iE] (by rw [hce]) ?_
        refine v_iconst C 0 dX5_begin_34 (by decide) ?_
        refine v_istore_n C [(1, .int 0), (0, .ref (b 0))] dX5_begin_35 (by decide) rfl ?_
        refine v_ws0 [oN b n_fa n_tr n_mi (nI nj) (nI nc) n_cr n_at n_rm n_rj n_rc 0 0 n_rl n_rd, ia (b 24) cI 5 (flF (-9) n_ho nc), ia (b 25) cI 6 (flF (-9) n_vd 0), ia (b 26) cB 5 n_iE] (by rw [flF_0]) ?_
        have l2 : ∀ (n_5 : Nat) (d : Nat), 6 - d < n_5 → (d ≤ 6) → V zp l ze (rmOf 0 0) zs zm [.ref (b 0)].toArray zb zt zc D (IM zA zs) (QMv zb [.ref (b 0)].toArray zs D cI cB cS [oN b n_fa n_tr n_mi (nI nj) (nI nc) n_cr n_at n_rm n_rj n_rc n_nw n_ov n_rl n_rd, ia (b 24) cI 5 n_ho, ia (b 25) cI 6 n_vd, ia (b 26) cB 5 n_iE] zz (fun w => w = [oN b n_fa n_tr n_mi (nI nj) (nI nc) n_cr n_at n_rm n_rj n_rc 0 0 n_rl n_rd, ia (b 24) cI 5 (flF (-9) n_ho nc), ia (b 25) cI 6 (flF (-9) n_vd 6), ia (b 26) cB 5 (flF 0 n_iE nj)])) 0 0 2 [oN b n_fa n_tr n_mi (nI nj) (nI nc) n_cr n_at n_rm n_rj n_rc 0 0 n_rl n_rd, ia (b 24) cI 5 (flF (-9) n_ho nc), ia (b 25) cI 6 (flF (-9) n_vd d), ia (b 26) cB 5 n_iE] [(1, .int (nI d)), (0, .ref (b 0))] 36 [] := by
          intro n_5
          induction n_5 with
          | zero => intro d b4; exact absurd b4 (by omega)
          | succ n_5 ihn_5 =>
            intro d b4 hd
            refine v_iload_n C dX5_begin_36 0 rfl ?_
            refine v_bipush C 6 dX5_begin_37 (by decide) ?_
            refine v_icmp_ge C 56 dX5_begin_39 (by decide) (fun c6 => ?_) (fun c6 => ?_)
            · have nc6 : 6 ≤ d := nI_leD c6 (by omega)
              have hde : d = 6 := by omega
              refine v_ws0 [oN b n_fa n_tr n_mi (nI nj) (nI nc) n_cr n_at n_rm n_rj n_rc 0 0 n_rl n_rd, ia (b 24) cI 5 (flF (-9) n_ho nc), ia (b 25) cI 6 (flF (-9) n_vd 6), ia (b 26) cB 5 n_iE] (by rw [hde]) ?_
              refine v_iconst C 0 dX5_begin_56 (by decide) ?_
              refine v_istore_n C [(1, .int 0), (0, .ref (b 0))] dX5_begin_57 (by decide) rfl ?_
              refine v_ws0 [oN b n_fa n_tr n_mi (nI nj) (nI nc) n_cr n_at n_rm n_rj n_rc 0 0 n_rl n_rd, ia (b 24) cI 5 (flF (-9) n_ho nc), ia (b 25) cI 6 (flF (-9) n_vd 6), ia (b 26) cB 5 (flF 0 n_iE 0)] (by rw [flF_0]) ?_
              have l3 : ∀ (n_8 : Nat) (j : Nat), nj - j < n_8 → (j ≤ nj) → V zp l ze (rmOf 0 0) zs zm [.ref (b 0)].toArray zb zt zc D (IM zA zs) (QMv zb [.ref (b 0)].toArray zs D cI cB cS [oN b n_fa n_tr n_mi (nI nj) (nI nc) n_cr n_at n_rm n_rj n_rc n_nw n_ov n_rl n_rd, ia (b 24) cI 5 n_ho, ia (b 25) cI 6 n_vd, ia (b 26) cB 5 n_iE] zz (fun w => w = [oN b n_fa n_tr n_mi (nI nj) (nI nc) n_cr n_at n_rm n_rj n_rc 0 0 n_rl n_rd, ia (b 24) cI 5 (flF (-9) n_ho nc), ia (b 25) cI 6 (flF (-9) n_vd 6), ia (b 26) cB 5 (flF 0 n_iE nj)])) 0 0 2 [oN b n_fa n_tr n_mi (nI nj) (nI nc) n_cr n_at n_rm n_rj n_rc 0 0 n_rl n_rd, ia (b 24) cI 5 (flF (-9) n_ho nc), ia (b 25) cI 6 (flF (-9) n_vd 6), ia (b 26) cB 5 (flF 0 n_iE j)] [(1, .int (nI j)), (0, .ref (b 0))] 58 [] := by
                intro n_8
                induction n_8 with
                | zero => intro j b7; exact absurd b7 (by omega)
                | succ n_8 ihn_8 =>
                  intro j b7 hj
                  refine v_iload_n C dX5_begin_58 0 rfl ?_
                  refine v_aload_n C dX5_begin_59 1 rfl ?_
                  refine v_get C f_X5_78 dX5_begin_60 0 rfl rfl ?_
                  refine v_icmp_ge C 79 dX5_begin_63 (by decide) (fun c9 => ?_) (fun c9 => ?_)
                  · have nc9 : nj ≤ j := nI_leD c9 (by omega)
                    have hje : j = nj := by omega
                    refine v_ws0 [oN b n_fa n_tr n_mi (nI nj) (nI nc) n_cr n_at n_rm n_rj n_rc 0 0 n_rl n_rd, ia (b 24) cI 5 (flF (-9) n_ho nc), ia (b 25) cI 6 (flF (-9) n_vd 6), ia (b 26) cB 5 (flF 0 n_iE nj)] (by rw [hje]) ?_
                    exact v_retv C hA dX5_begin_79 (rfl)
                  · have nc9 : j < nj := nI_ltD c9 (by omega)
                    refine v_aload_n C dX5_begin_66 1 rfl ?_
                    refine v_get C f_X5_53 dX5_begin_67 0 rfl rfl ?_
                    refine v_iload_n C dX5_begin_70 0 rfl ?_
                    refine v_iconst C 0 dX5_begin_71 (by decide) ?_
                    refine v_zastN C [oN b n_fa n_tr n_mi (nI nj) (nI nc) n_cr n_at n_rm n_rj n_rc 0 0 n_rl n_rd, ia (b 24) cI 5 (flF (-9) n_ho nc), ia (b 25) cI 6 (flF (-9) n_vd 6), ia (b 26) cB 5 (upd (flF 0 n_iE j) j 0)] dX5_begin_72 3 rfl j rfl (by omega) (by decide) rfl rfl ?_
                    refine v_ws0 [oN b n_fa n_tr n_mi (nI nj) (nI nc) n_cr n_at n_rm n_rj n_rc 0 0 n_rl n_rd, ia (b 24) cI 5 (flF (-9) n_ho nc), ia (b 25) cI 6 (flF (-9) n_vd 6), ia (b 26) cB 5 (flF 0 n_iE (j + 1))] (by rw [← flF_s 0 n_iE]) ?_
                    refine v_iinc C (nI (j + 1)) [(1, .int (nI (j + 1))), (0, .ref (b 0))] 0 dX5_begin_73 rfl (nI_inc _) (by decide) rfl ?_
                    refine v_goto C 58 dX5_begin_76 (by decide) ?_
                    exact ihn_8 (j + 1) (by omega) (by omega)
              exact l3 (nj - 0 + 1) 0 (by omega) (by omega)
            · have nc6 : d < 6 := nI_ltD c6 (by omega)
              refine v_aload_n C dX5_begin_42 1 rfl ?_
              refine v_get C f_X5_50 dX5_begin_43 0 rfl rfl ?_
              refine v_iload_n C dX5_begin_46 0 rfl ?_
              refine v_bipush C (-9) dX5_begin_47 (by decide) ?_
              refine v_iastN C [oN b n_fa n_tr n_mi (nI nj) (nI nc) n_cr n_at n_rm n_rj n_rc 0 0 n_rl n_rd, ia (b 24) cI 5 (flF (-9) n_ho nc), ia (b 25) cI 6 (upd (flF (-9) n_vd d) d (-9)), ia (b 26) cB 5 n_iE] dX5_begin_49 2 rfl d rfl (by omega) (by decide) rfl ?_
              refine v_ws0 [oN b n_fa n_tr n_mi (nI nj) (nI nc) n_cr n_at n_rm n_rj n_rc 0 0 n_rl n_rd, ia (b 24) cI 5 (flF (-9) n_ho nc), ia (b 25) cI 6 (flF (-9) n_vd (d + 1)), ia (b 26) cB 5 n_iE] (by rw [← flF_s (-9) n_vd]) ?_
              refine v_iinc C (nI (d + 1)) [(1, .int (nI (d + 1))), (0, .ref (b 0))] 0 dX5_begin_50 rfl (nI_inc _) (by decide) rfl ?_
              refine v_goto C 36 dX5_begin_53 (by decide) ?_
              exact ihn_5 (d + 1) (by omega) (by omega)
        exact l2 (6 - 0 + 1) 0 (by omega) (by omega)
      · have nc3 : c < nc := nI_ltD c3 (by omega)
        refine v_aload_n C dX5_begin_20 1 rfl ?_
        refine v_get C f_X5_47 dX5_begin_21 0 rfl rfl ?_
        refine v_iload_n C dX5_begin_24 0 rfl ?_
        refine v_bipush C (-9) dX5_begin_25 (by decide) ?_
        refine v_iastN C [oN b n_fa n_tr n_mi (nI nj) (nI nc) n_cr n_at n_rm n_rj n_rc 0 0 n_rl n_rd, ia (b 24) cI 5 (upd (flF (-9) n_ho c) c (-9)), ia (b 25) cI 6 n_vd, ia (b 26) cB 5 n_iE] dX5_begin_27 1 rfl c rfl (by omega) (by decide) rfl ?_
        refine v_ws0 [oN b n_fa n_tr n_mi (nI nj) (nI nc) n_cr n_at n_rm n_rj n_rc 0 0 n_rl n_rd, ia (b 24) cI 5 (flF (-9) n_ho (c + 1)), ia (b 25) cI 6 n_vd, ia (b 26) cB 5 n_iE] (by rw [← flF_s (-9) n_ho]) ?_
        refine v_iinc C (nI (c + 1)) [(1, .int (nI (c + 1))), (0, .ref (b 0))] 0 dX5_begin_28 rfl (nI_inc _) (by decide) rfl ?_
        refine v_goto C 12 dX5_begin_31 (by decide) ?_
        exact ihn_2 (c + 1) (by omega) (by omega)
  exact l1 (nc - 0 + 1) 0 (by omega) (by omega)
set_option maxHeartbeats 4000000 in
set_option maxRecDepth 100000 in
theorem m_X5_goRow {l : Launch} {D : va_G} {cI cB cS : ClassId} (b : Nat → Nat) (wl nj nc s0 st L : Nat) (o dn : Nat → Nat) (we : Nat → Int32) (n_fa : Int32) (n_tr : Int32) (n_mi : Int32) (n_at : Int32) (n_rm : Int32) (n_rj : Int32) (n_rc : Int32) (n_nw : Int32) (n_ov : Int32) (n_rd : Int32) (n_kd : Nat → Int32) (n_ag : Nat → Int32) (n_hS : Nat → Int32) (n_iS : Nat → Int32) (n_iE : Nat → Int32) (n_de : Nat → Int32) (n_fr : Nat → Int32) (n_ho : Nat → Int32) (n_vd : Nat → Int32) (n_rw : Nat → Int32) (hwl : wl < 64) (hnc : nc ≤ 5) (hnj : nj ≤ 5) (hhS : ∀ j, j < nj → n_hS j = bA s0 j) (hiS : ∀ j, j < nj → n_iS j = bA st j) (hde : ∀ c, c < nc → n_de c = nI (dn c) ∧ dn c < 6) (hL : L ≤ 5) (ho : ∀ p, p < L → n_rw p = nI (o p) ∧ o p < nc) : Mv l yX5_goRow cX5_goRow 2 4 92 D cI cB cS [.ref (b 0)] [oN b n_fa n_tr n_mi (nI nj) (nI nc) (nI wl) n_at n_rm n_rj n_rc n_nw n_ov (nI L) n_rd, ia (b 9) cI 5 n_kd, ia (b 10) cI 5 n_ag, ia (b 11) cB 5 n_hS, ia (b 12) cB 5 n_iS, ia (b 26) cB 5 n_iE, ia (b 13) cI 5 n_de, ia (b 14) cI 5 n_fr, ia (b 24) cI 5 n_ho, ia (b 25) cI 6 n_vd, ia (b 28) cI 5 n_rw] (fun w => ∃ (nw' : Int32) (ov' : Int32) (ho' : Nat → Int32) (vd' : Nat → Int32) (iE' : Nat → Int32), w = [oN b n_fa n_tr n_mi (nI nj) (nI nc) (nI wl) n_at n_rm n_rj n_rc nw' ov' (nI L) n_rd, ia (b 9) cI 5 n_kd, ia (b 10) cI 5 n_ag, ia (b 11) cB 5 n_hS, ia (b 12) cB 5 n_iS, ia (b 26) cB 5 iE', ia (b 13) cI 5 n_de, ia (b 14) cI 5 n_fr, ia (b 24) cI 5 ho', ia (b 25) cI 6 vd', ia (b 28) cI 5 n_rw] ∧ SM nj nc s0 (sitS nj n_kd n_ag st wl dn n_fr we n_mi s0 o L) nw' ov' ho' vd' iE') := by
  refine Mv.of (by decide) (Nat.le_of_ble_eq_true rfl) ?_
  intro zp ze zs zm zb zt zc zz zA hA C hnm
  refine v_lv0 [(0, .ref (b 0))] rfl ?_
  refine v_aload_n C dX5_goRow_0 0 rfl ?_
  refine v_callMv C l_X5_163 (m_X5_begin b nj nc n_fa n_tr n_mi (nI wl) n_at n_rm n_rj n_rc n_nw n_ov (nI L) n_rd n_ho n_vd n_iE (by assumption) (by assumption)) (by decide) dX5_goRow_1 [0, 8, 9, 5] [1, 2, 3, 4, 6, 7, 10] (wr := [ia (b 9) cI 5 n_kd, ia (b 10) cI 5 n_ag, ia (b 11) cB 5 n_hS, ia (b 12) cB 5 n_iS, ia (b 13) cI 5 n_de, ia (b 14) cI 5 n_fr, ia (b 28) cI 5 n_rw]) (by decide) rfl rfl (by decide) (by decide) 0 rfl rfl rfl (rest := []) rfl (Nat.le_of_ble_eq_true rfl) (by decide) (fun w1 h2 => ?_)
  subst h2
  refine v_ws0 [ia (b 9) cI 5 n_kd, ia (b 10) cI 5 n_ag, ia (b 11) cB 5 n_hS, ia (b 12) cB 5 n_iS, ia (b 13) cI 5 n_de, ia (b 14) cI 5 n_fr, ia (b 28) cI 5 n_rw, oN b n_fa n_tr n_mi (nI nj) (nI nc) (nI wl) n_at n_rm n_rj n_rc 0 0 (nI L) n_rd, ia (b 24) cI 5 (flF (-9) n_ho nc), ia (b 25) cI 6 (flF (-9) n_vd 6), ia (b 26) cB 5 (flF 0 n_iE nj)] rfl ?_
  refine v_iconst C 0 dX5_goRow_4 (by decide) ?_
  refine v_istore_n C [(1, .int 0), (0, .ref (b 0))] dX5_goRow_5 (by decide) rfl ?_
  refine v_perm (ws' := [oN b n_fa n_tr n_mi (nI nj) (nI nc) (nI wl) n_at n_rm n_rj n_rc 0 0 (nI L) n_rd, ia (b 9) cI 5 n_kd, ia (b 10) cI 5 n_ag, ia (b 11) cB 5 n_hS, ia (b 12) cB 5 n_iS, ia (b 26) cB 5 (flF 0 n_iE nj), ia (b 13) cI 5 n_de, ia (b 14) cI 5 n_fr, ia (b 24) cI 5 (flF (-9) n_ho nc), ia (b 25) cI 6 (flF (-9) n_vd 6), ia (b 28) cI 5 n_rw]) [7, 0, 1, 2, 3, 10, 4, 5, 8, 9, 6] (by decide) rfl ?_
  have lp : ∀ (n_5 : Nat) (k : Nat) (nw1 : Int32) (ov1 : Int32) (ho1 : Nat → Int32) (vd1 : Nat → Int32) (iE1 : Nat → Int32), L - k < n_5 → (k ≤ L) → (SM nj nc s0 (sitS nj n_kd n_ag st wl dn n_fr we n_mi s0 o k) nw1 ov1 ho1 vd1 iE1) → V zp l ze (rmOf 4 92) zs zm [.ref (b 0)].toArray zb zt zc D (IM zA zs) (QMv zb [.ref (b 0)].toArray zs D cI cB cS [oN b n_fa n_tr n_mi (nI nj) (nI nc) (nI wl) n_at n_rm n_rj n_rc n_nw n_ov (nI L) n_rd, ia (b 9) cI 5 n_kd, ia (b 10) cI 5 n_ag, ia (b 11) cB 5 n_hS, ia (b 12) cB 5 n_iS, ia (b 26) cB 5 n_iE, ia (b 13) cI 5 n_de, ia (b 14) cI 5 n_fr, ia (b 24) cI 5 n_ho, ia (b 25) cI 6 n_vd, ia (b 28) cI 5 n_rw] zz (fun w => ∃ (nw' : Int32) (ov' : Int32) (ho' : Nat → Int32) (vd' : Nat → Int32) (iE' : Nat → Int32), w = [oN b n_fa n_tr n_mi (nI nj) (nI nc) (nI wl) n_at n_rm n_rj n_rc nw' ov' (nI L) n_rd, ia (b 9) cI 5 n_kd, ia (b 10) cI 5 n_ag, ia (b 11) cB 5 n_hS, ia (b 12) cB 5 n_iS, ia (b 26) cB 5 iE', ia (b 13) cI 5 n_de, ia (b 14) cI 5 n_fr, ia (b 24) cI 5 ho', ia (b 25) cI 6 vd', ia (b 28) cI 5 n_rw] ∧ SM nj nc s0 (sitS nj n_kd n_ag st wl dn n_fr we n_mi s0 o L) nw' ov' ho' vd' iE')) 0 0 2 [oN b n_fa n_tr n_mi (nI nj) (nI nc) (nI wl) n_at n_rm n_rj n_rc nw1 ov1 (nI L) n_rd, ia (b 9) cI 5 n_kd, ia (b 10) cI 5 n_ag, ia (b 11) cB 5 n_hS, ia (b 12) cB 5 n_iS, ia (b 26) cB 5 iE1, ia (b 13) cI 5 n_de, ia (b 14) cI 5 n_fr, ia (b 24) cI 5 ho1, ia (b 25) cI 6 vd1, ia (b 28) cI 5 n_rw] [(1, .int (nI k)), (0, .ref (b 0))] 6 [] := by
    intro n_5
    induction n_5 with
    | zero => intro k nw1 ov1 ho1 vd1 iE1 b4; exact absurd b4 (by omega)
    | succ n_5 ihn_5 =>
      intro k nw1 ov1 ho1 vd1 iE1 b4 hk hS
      refine v_iload_n C dX5_goRow_6 0 rfl ?_
      refine v_aload_n C dX5_goRow_7 1 rfl ?_
      refine v_get C f_X5_166 dX5_goRow_8 0 rfl rfl ?_
      refine v_icmp_ge C 30 dX5_goRow_11 (by decide) (fun c6 => ?_) (fun c6 => ?_)
      · have nc6 : L ≤ k := nI_leD c6 (by omega)
        have hke : k = L := by omega
        rw [hke] at hS
        exact v_retv C hA dX5_goRow_30 (⟨_, _, _, _, _, rfl, hS⟩)
      · have nc6 : k < L := nI_ltD c6 (by omega)
        have hkL : k < L := nc6
        refine v_aload_n C dX5_goRow_14 1 rfl ?_
        refine v_aload_n C dX5_goRow_15 1 rfl ?_
        refine v_get C f_X5_56 dX5_goRow_16 0 rfl rfl ?_
        refine v_iload_n C dX5_goRow_19 0 rfl ?_
        refine v_ialdN C dX5_goRow_20 10 rfl k rfl (by omega) (by decide) ?_
        refine v_eqi (nI (o k)) ((ho k hkL).1) ?_
        refine v_callMv C l_X5_169 (m_X5_tryCase b (o k) wl nj nc s0 st (sitS nj n_kd n_ag st wl dn n_fr we n_mi s0 o k) dn we n_fa n_tr n_mi n_at n_rm n_rj n_rc nw1 ov1 (nI L) n_rd n_kd n_ag n_hS n_iS iE1 n_de n_fr ho1 vd1 (ho k hkL).2 (by assumption) (by assumption) (by assumption) (by assumption) (by assumption) (by assumption) hS) (by decide) dX5_goRow_21 [0, 1, 2, 3, 4, 5, 6, 7, 8, 9] [10] (wr := [ia (b 28) cI 5 n_rw]) (by decide) rfl rfl (by decide) (by decide) 0 rfl rfl rfl (rest := []) rfl (Nat.le_of_ble_eq_true rfl) (by decide) (fun w7 h8 => ?_)
        obtain ⟨nw_10, ov_11, ho_12, vd_13, iE_14, rfl, hs15⟩ := h8
        refine v_ws0 [ia (b 28) cI 5 n_rw, oN b n_fa n_tr n_mi (nI nj) (nI nc) (nI wl) n_at n_rm n_rj n_rc nw_10 ov_11 (nI L) n_rd, ia (b 9) cI 5 n_kd, ia (b 10) cI 5 n_ag, ia (b 11) cB 5 n_hS, ia (b 12) cB 5 n_iS, ia (b 26) cB 5 iE_14, ia (b 13) cI 5 n_de, ia (b 14) cI 5 n_fr, ia (b 24) cI 5 ho_12, ia (b 25) cI 6 vd_13] rfl ?_
        refine v_iinc C (nI (k + 1)) [(1, .int (nI (k + 1))), (0, .ref (b 0))] 0 dX5_goRow_24 rfl (nI_inc _) (by decide) rfl ?_
        refine v_goto C 6 dX5_goRow_27 (by decide) ?_
        refine v_perm (ws' := [oN b n_fa n_tr n_mi (nI nj) (nI nc) (nI wl) n_at n_rm n_rj n_rc nw_10 ov_11 (nI L) n_rd, ia (b 9) cI 5 n_kd, ia (b 10) cI 5 n_ag, ia (b 11) cB 5 n_hS, ia (b 12) cB 5 n_iS, ia (b 26) cB 5 iE_14, ia (b 13) cI 5 n_de, ia (b 14) cI 5 n_fr, ia (b 24) cI 5 ho_12, ia (b 25) cI 6 vd_13, ia (b 28) cI 5 n_rw]) [1, 2, 3, 4, 5, 6, 7, 8, 9, 10, 0] (by decide) rfl ?_
        exact ihn_5 (k + 1) nw_10 ov_11 ho_12 vd_13 iE_14 (by omega) (by omega) (by rw [sitS]; exact hs15)
  exact lp (L - 0 + 1) 0 0 0 (flF (-9) n_ho nc) (flF (-9) n_vd 6) (flF 0 n_iE nj) (by omega) (by omega) SM_0
set_option maxHeartbeats 4000000 in
set_option maxRecDepth 100000 in
theorem m_X5_layNumbers {l : Launch} {D : va_G} {cI cB cS : ClassId} (b : Nat → Nat) (nc : Nat) (n_fa : Int32) (n_tr : Int32) (n_mi : Int32) (n_ju : Int32) (n_cr : Int32) (n_at : Int32) (n_rm : Int32) (n_rj : Int32) (n_rc : Int32) (n_nw : Int32) (n_ov : Int32) (n_rl : Int32) (n_rd : Int32) (n_rw : Nat → Int32) (hnc : nc ≤ 5) : Mv l yX5_layNumbers cX5_layNumbers 2 0 0 D cI cB cS [.ref (b 0)] [oN b n_fa n_tr n_mi n_ju (nI nc) n_cr n_at n_rm n_rj n_rc n_nw n_ov n_rl n_rd, ia (b 28) cI 5 n_rw] (fun w => w = [oN b n_fa n_tr n_mi n_ju (nI nc) n_cr n_at n_rm n_rj n_rc n_nw n_ov (nI nc) n_rd, ia (b 28) cI 5 (tbF nI n_rw nc)]) := by
  refine Mv.of (by decide) (Nat.le_of_ble_eq_true rfl) ?_
  intro zp ze zs zm zb zt zc zz zA hA C hnm
  refine v_lv0 [(0, .ref (b 0))] rfl ?_
  refine v_aload_n C dX5_layNumbers_0 0 rfl ?_
  refine v_aload_n C dX5_layNumbers_1 0 rfl ?_
  refine v_get C f_X5_81 dX5_layNumbers_2 0 rfl rfl ?_
  refine v_put C p_X5_166 [oN b n_fa n_tr n_mi n_ju (nI nc) n_cr n_at n_rm n_rj n_rc n_nw n_ov (nI nc) n_rd, ia (b 28) cI 5 n_rw] dX5_layNumbers_5 0 rfl rfl rfl (Nat.le_of_ble_eq_true rfl) rfl ?_
  refine v_iconst C 0 dX5_layNumbers_8 (by decide) ?_
  refine v_istore_n C [(1, .int 0), (0, .ref (b 0))] dX5_layNumbers_9 (by decide) rfl ?_
  refine v_ws0 [oN b n_fa n_tr n_mi n_ju (nI nc) n_cr n_at n_rm n_rj n_rc n_nw n_ov (nI nc) n_rd, ia (b 28) cI 5 (tbF nI n_rw 0)] (by rw [tbF_0]) ?_
  have lp : ∀ (n_2 : Nat) (c : Nat), nc - c < n_2 → (c ≤ nc) → V zp l ze (rmOf 0 0) zs zm [.ref (b 0)].toArray zb zt zc D (IM zA zs) (QMv zb [.ref (b 0)].toArray zs D cI cB cS [oN b n_fa n_tr n_mi n_ju (nI nc) n_cr n_at n_rm n_rj n_rc n_nw n_ov n_rl n_rd, ia (b 28) cI 5 n_rw] zz (fun w => w = [oN b n_fa n_tr n_mi n_ju (nI nc) n_cr n_at n_rm n_rj n_rc n_nw n_ov (nI nc) n_rd, ia (b 28) cI 5 (tbF nI n_rw nc)])) 0 0 2 [oN b n_fa n_tr n_mi n_ju (nI nc) n_cr n_at n_rm n_rj n_rc n_nw n_ov (nI nc) n_rd, ia (b 28) cI 5 (tbF nI n_rw c)] [(1, .int (nI c)), (0, .ref (b 0))] 10 [] := by
    intro n_2
    induction n_2 with
    | zero => intro c b1; exact absurd b1 (by omega)
    | succ n_2 ihn_2 =>
      intro c b1 hc
      refine v_iload_n C dX5_layNumbers_10 0 rfl ?_
      refine v_aload_n C dX5_layNumbers_11 1 rfl ?_
      refine v_get C f_X5_81 dX5_layNumbers_12 0 rfl rfl ?_
      refine v_icmp_ge C 31 dX5_layNumbers_15 (by decide) (fun c3 => ?_) (fun c3 => ?_)
      · have nc3 : nc ≤ c := nI_leD c3 (by omega)
        have hce : c = nc := by omega
        refine v_ws0 [oN b n_fa n_tr n_mi n_ju (nI nc) n_cr n_at n_rm n_rj n_rc n_nw n_ov (nI nc) n_rd, ia (b 28) cI 5 (tbF nI n_rw nc)] (by rw [hce]) ?_
        exact v_retv C hA dX5_layNumbers_31 (rfl)
      · have nc3 : c < nc := nI_ltD c3 (by omega)
        refine v_aload_n C dX5_layNumbers_18 1 rfl ?_
        refine v_get C f_X5_56 dX5_layNumbers_19 0 rfl rfl ?_
        refine v_iload_n C dX5_layNumbers_22 0 rfl ?_
        refine v_iload_n C dX5_layNumbers_23 0 rfl ?_
        refine v_iastN C [oN b n_fa n_tr n_mi n_ju (nI nc) n_cr n_at n_rm n_rj n_rc n_nw n_ov (nI nc) n_rd, ia (b 28) cI 5 (upd (tbF nI n_rw c) c (nI c))] dX5_layNumbers_24 1 rfl c rfl (by omega) (by decide) rfl ?_
        refine v_ws0 [oN b n_fa n_tr n_mi n_ju (nI nc) n_cr n_at n_rm n_rj n_rc n_nw n_ov (nI nc) n_rd, ia (b 28) cI 5 (tbF nI n_rw (c + 1))] (by rw [← tbF_s nI]) ?_
        refine v_iinc C (nI (c + 1)) [(1, .int (nI (c + 1))), (0, .ref (b 0))] 0 dX5_layNumbers_25 rfl (nI_inc _) (by decide) rfl ?_
        refine v_goto C 10 dX5_layNumbers_28 (by decide) ?_
        exact ihn_2 (c + 1) (by omega) (by omega)
  exact lp (nc - 0 + 1) 0 (by omega) (by omega)
set_option maxHeartbeats 4000000 in
set_option maxRecDepth 100000 in
theorem m_X5_sentenced {l : Launch} {D : va_G} {cI cB cS : ClassId} (b : Nat → Nat) (nc : Nat) (n_fa : Int32) (n_tr : Int32) (n_mi : Int32) (n_ju : Int32) (n_cr : Int32) (n_at : Int32) (n_rm : Int32) (n_rj : Int32) (n_rc : Int32) (n_nw : Int32) (n_ov : Int32) (n_rl : Int32) (n_rd : Int32) (n_ho : Nat → Int32) (n_we : Nat → Int32) (hnc : nc ≤ 5) : Ri l yX5_sentenced cX5_sentenced 3 (some .int) 0 0 D cI cB cS [.ref (b 0)] [oN b n_fa n_tr n_mi n_ju (nI nc) n_cr n_at n_rm n_rj n_rc n_nw n_ov n_rl n_rd, ia (b 24) cI 5 n_ho, ia (b 15) cI 5 n_we] (fun r => r = seS n_ho n_we nc) := by
  refine Ri.of (by decide) (Nat.le_of_ble_eq_true rfl) ?_
  intro zp ze zs zm zb zt zc C
  refine v_lv0 [(0, .ref (b 0))] rfl ?_
  refine v_iconst C 0 dX5_sentenced_0 (by decide) ?_
  refine v_istore_n C [(1, .int 0), (0, .ref (b 0))] dX5_sentenced_1 (by decide) rfl ?_
  refine v_iconst C 0 dX5_sentenced_2 (by decide) ?_
  refine v_istore_n C [(2, .int 0), (1, .int 0), (0, .ref (b 0))] dX5_sentenced_3 (by decide) rfl ?_
  have lp : ∀ (n_2 : Nat) (c : Nat) (sm : Int32), nc - c < n_2 → (c ≤ nc) → (sm = seS n_ho n_we c) → V zp l ze (rmOf 0 0) zs zm [.ref (b 0)].toArray zb zt zc D (IR zs) (QRi zb [.ref (b 0)].toArray zs (fun r => r = seS n_ho n_we nc)) 0 0 3 [oN b n_fa n_tr n_mi n_ju (nI nc) n_cr n_at n_rm n_rj n_rc n_nw n_ov n_rl n_rd, ia (b 24) cI 5 n_ho, ia (b 15) cI 5 n_we] [(2, .int (nI c)), (1, .int sm), (0, .ref (b 0))] 4 [] := by
    intro n_2
    induction n_2 with
    | zero => intro c sm b1; exact absurd b1 (by omega)
    | succ n_2 ihn_2 =>
      intro c sm b1 hc hs
      refine v_iload_n C dX5_sentenced_4 0 rfl ?_
      refine v_aload_n C dX5_sentenced_5 2 rfl ?_
      refine v_get C f_X5_81 dX5_sentenced_6 0 rfl rfl ?_
      refine v_icmp_ge C 41 dX5_sentenced_9 (by decide) (fun c3 => ?_) (fun c3 => ?_)
      · have nc3 : nc ≤ c := nI_leD c3 (by omega)
        have hce : c = nc := by omega
        rw [hce] at hs
        refine v_iload_n C dX5_sentenced_41 1 rfl ?_
        exact v_retRi C dX5_sentenced_42 rfl (hs)
      · have nc3 : c < nc := nI_ltD c3 (by omega)
        refine v_iload_n C dX5_sentenced_12 1 rfl ?_
        refine v_aload_n C dX5_sentenced_13 2 rfl ?_
        refine v_get C f_X5_47 dX5_sentenced_14 0 rfl rfl ?_
        refine v_iload_n C dX5_sentenced_17 0 rfl ?_
        refine v_ialdN C dX5_sentenced_18 1 rfl c rfl (by omega) (by decide) ?_
        refine v_iconst C 1 dX5_sentenced_19 (by decide) ?_
        refine v_icmp_ne C 32 dX5_sentenced_20 (by decide) (fun c4 => ?_) (fun c4 => ?_)
        · refine v_iconst C 0 dX5_sentenced_32 (by decide) ?_
          refine v_iadd C dX5_sentenced_33 ?_
          refine v_istore_n C [(1, .int (sm + 0)), (2, .int (nI c)), (0, .ref (b 0))] dX5_sentenced_34 (by decide) rfl ?_
          refine v_iinc C (nI (c + 1)) [(2, .int (nI (c + 1))), (1, .int (sm + 0)), (0, .ref (b 0))] 1 dX5_sentenced_35 rfl (nI_inc _) (by decide) rfl ?_
          refine v_goto C 4 dX5_sentenced_38 (by decide) ?_
          exact ihn_2 (c + 1) (sm + 0) (by omega) (by omega) (by rw [seS, hs]; simp [c4])
        · refine v_aload_n C dX5_sentenced_23 2 rfl ?_
          refine v_get C f_X5_38 dX5_sentenced_24 0 rfl rfl ?_
          refine v_iload_n C dX5_sentenced_27 0 rfl ?_
          refine v_ialdN C dX5_sentenced_28 2 rfl c rfl (by omega) (by decide) ?_
          refine v_goto C 33 dX5_sentenced_29 (by decide) ?_
          refine v_iadd C dX5_sentenced_33 ?_
          refine v_istore_n C [(1, .int (sm + (n_we c))), (2, .int (nI c)), (0, .ref (b 0))] dX5_sentenced_34 (by decide) rfl ?_
          refine v_iinc C (nI (c + 1)) [(2, .int (nI (c + 1))), (1, .int (sm + (n_we c))), (0, .ref (b 0))] 1 dX5_sentenced_35 rfl (nI_inc _) (by decide) rfl ?_
          refine v_goto C 4 dX5_sentenced_38 (by decide) ?_
          exact ihn_2 (c + 1) (sm + (n_we c)) (by omega) (by omega) (by rw [seS, hs]; simp [c4])
  exact lp (nc - 0 + 1) 0 0 (by omega) (by omega) rfl
set_option maxHeartbeats 4000000 in
set_option maxRecDepth 100000 in
theorem m_X5_byNumbers {l : Launch} {D : va_G} {cI cB cS : ClassId} (b : Nat → Nat) (wl nj nc s0 st : Nat) (dn : Nat → Nat) (n_fa : Int32) (n_tr : Int32) (n_mi : Int32) (n_at : Int32) (n_rm : Int32) (n_rj : Int32) (n_rc : Int32) (n_nw : Int32) (n_ov : Int32) (n_rl : Int32) (n_rd : Int32) (n_kd : Nat → Int32) (n_ag : Nat → Int32) (n_hS : Nat → Int32) (n_iS : Nat → Int32) (n_iE : Nat → Int32) (n_de : Nat → Int32) (n_fr : Nat → Int32) (n_ho : Nat → Int32) (n_vd : Nat → Int32) (n_rw : Nat → Int32) (n_we : Nat → Int32) (hwl : wl < 64) (hnc : nc ≤ 5) (hnj : nj ≤ 5) (hhS : ∀ j, j < nj → n_hS j = bA s0 j) (hiS : ∀ j, j < nj → n_iS j = bA st j) (hde : ∀ c, c < nc → n_de c = nI (dn c) ∧ dn c < 6) : Mi l yX5_byNumbers cX5_byNumbers 1 (some .int) 5 113 D cI cB cS [.ref (b 0)] [oN b n_fa n_tr n_mi (nI nj) (nI nc) (nI wl) n_at n_rm n_rj n_rc n_nw n_ov n_rl n_rd, ia (b 9) cI 5 n_kd, ia (b 10) cI 5 n_ag, ia (b 11) cB 5 n_hS, ia (b 12) cB 5 n_iS, ia (b 26) cB 5 n_iE, ia (b 13) cI 5 n_de, ia (b 14) cI 5 n_fr, ia (b 24) cI 5 n_ho, ia (b 25) cI 6 n_vd, ia (b 28) cI 5 n_rw, ia (b 15) cI 5 n_we] (fun r w => ∃ (nw' : Int32) (ov' : Int32) (ho' : Nat → Int32) (vd' : Nat → Int32) (iE' : Nat → Int32) (rl' : Int32) (rw' : Nat → Int32), r = (sitS nj n_kd n_ag st wl dn n_fr n_we n_mi s0 (fun p => p) nc).2.2.2.2.1 ∧ w = [oN b n_fa n_tr n_mi (nI nj) (nI nc) (nI wl) n_at n_rm n_rj n_rc nw' ov' rl' n_rd, ia (b 9) cI 5 n_kd, ia (b 10) cI 5 n_ag, ia (b 11) cB 5 n_hS, ia (b 12) cB 5 n_iS, ia (b 26) cB 5 iE', ia (b 13) cI 5 n_de, ia (b 14) cI 5 n_fr, ia (b 24) cI 5 ho', ia (b 25) cI 6 vd', ia (b 28) cI 5 rw', ia (b 15) cI 5 n_we] ∧ ∀ c, c < nc → ho' c = (sitS nj n_kd n_ag st wl dn n_fr n_we n_mi s0 (fun p => p) nc).1 c) := by
  refine Mi.of (by decide) (Nat.le_of_ble_eq_true rfl) ?_
  intro zp ze zs zm zb zt zc zz zA hA C hnm
  refine v_lv0 [(0, .ref (b 0))] rfl ?_
  refine v_aload_n C dX5_byNumbers_0 0 rfl ?_
  refine v_callMv C l_X5_173 (m_X5_layNumbers b nc n_fa n_tr n_mi (nI nj) (nI wl) n_at n_rm n_rj n_rc n_nw n_ov n_rl n_rd n_rw (by assumption)) (by decide) dX5_byNumbers_1 [0, 10] [1, 2, 3, 4, 5, 6, 7, 8, 9, 11] (wr := [ia (b 9) cI 5 n_kd, ia (b 10) cI 5 n_ag, ia (b 11) cB 5 n_hS, ia (b 12) cB 5 n_iS, ia (b 26) cB 5 n_iE, ia (b 13) cI 5 n_de, ia (b 14) cI 5 n_fr, ia (b 24) cI 5 n_ho, ia (b 25) cI 6 n_vd, ia (b 15) cI 5 n_we]) (by decide) rfl rfl (by decide) (by decide) 0 rfl rfl rfl (rest := []) rfl (Nat.le_of_ble_eq_true rfl) (by decide) (fun w1 h2 => ?_)
  subst h2
  refine v_ws0 [ia (b 9) cI 5 n_kd, ia (b 10) cI 5 n_ag, ia (b 11) cB 5 n_hS, ia (b 12) cB 5 n_iS, ia (b 26) cB 5 n_iE, ia (b 13) cI 5 n_de, ia (b 14) cI 5 n_fr, ia (b 24) cI 5 n_ho, ia (b 25) cI 6 n_vd, ia (b 15) cI 5 n_we, oN b n_fa n_tr n_mi (nI nj) (nI nc) (nI wl) n_at n_rm n_rj n_rc n_nw n_ov (nI nc) n_rd, ia (b 28) cI 5 (tbF nI n_rw nc)] rfl ?_
  refine v_aload_n C dX5_byNumbers_4 0 rfl ?_
  refine v_callMv C l_X5_176 (m_X5_goRow b wl nj nc s0 st nc (fun p => p) dn n_we n_fa n_tr n_mi n_at n_rm n_rj n_rc n_nw n_ov n_rd n_kd n_ag n_hS n_iS n_iE n_de n_fr n_ho n_vd (tbF nI n_rw nc) (by assumption) (by assumption) (by assumption) (by assumption) (by assumption) (by assumption) hnc (fun p hp => ⟨tbF_in hp, hp⟩)) (by decide) dX5_byNumbers_5 [10, 0, 1, 2, 3, 4, 5, 6, 7, 8, 11] [9] (wr := [ia (b 15) cI 5 n_we]) (by decide) rfl rfl (by decide) (by decide) 10 rfl rfl rfl (rest := []) rfl (Nat.le_of_ble_eq_true rfl) (by decide) (fun w4 h5 => ?_)
  obtain ⟨nw_7, ov_8, ho_9, vd_10, iE_11, rfl, hs12⟩ := h5
  refine v_ws0 [ia (b 15) cI 5 n_we, oN b n_fa n_tr n_mi (nI nj) (nI nc) (nI wl) n_at n_rm n_rj n_rc nw_7 ov_8 (nI nc) n_rd, ia (b 9) cI 5 n_kd, ia (b 10) cI 5 n_ag, ia (b 11) cB 5 n_hS, ia (b 12) cB 5 n_iS, ia (b 26) cB 5 iE_11, ia (b 13) cI 5 n_de, ia (b 14) cI 5 n_fr, ia (b 24) cI 5 ho_9, ia (b 25) cI 6 vd_10, ia (b 28) cI 5 (tbF nI n_rw nc)] rfl ?_
  refine v_aload_n C dX5_byNumbers_8 0 rfl ?_
  refine v_callRi C l_X5_179 (m_X5_sentenced b nc n_fa n_tr n_mi (nI nj) (nI wl) n_at n_rm n_rj n_rc nw_7 ov_8 (nI nc) n_rd ho_9 n_we (by assumption)) (by decide) dX5_byNumbers_9 [1, 9, 0] rfl 1 rfl rfl rfl (rest := []) rfl (Nat.le_of_ble_eq_true rfl) (by decide) (fun r13 h14 => ?_)
  subst h14
  refine v_perm (ws' := [oN b n_fa n_tr n_mi (nI nj) (nI nc) (nI wl) n_at n_rm n_rj n_rc nw_7 ov_8 (nI nc) n_rd, ia (b 9) cI 5 n_kd, ia (b 10) cI 5 n_ag, ia (b 11) cB 5 n_hS, ia (b 12) cB 5 n_iS, ia (b 26) cB 5 iE_11, ia (b 13) cI 5 n_de, ia (b 14) cI 5 n_fr, ia (b 24) cI 5 ho_9, ia (b 25) cI 6 vd_10, ia (b 28) cI 5 (tbF nI n_rw nc), ia (b 15) cI 5 n_we]) [1, 2, 3, 4, 5, 6, 7, 8, 9, 10, 11, 0] (by decide) rfl ?_
  exact v_reti C hA dX5_byNumbers_12 rfl (⟨_, _, _, _, _, _, _, by rw [seS_cong hs12.2.2.1]; exact (sit_se (fun p hp => hp) (fun p q _ _ e => e) nc (Nat.le_refl nc)).symm, rfl, hs12.2.2.1⟩)
