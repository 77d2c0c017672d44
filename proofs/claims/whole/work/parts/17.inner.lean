set_option maxHeartbeats 4000000 in
set_option maxRecDepth 100000 in
theorem m_X1_renew {l : Launch} {D : va_G} {cI cB cS : ClassId} (a : Nat → Nat) (k : Nat) (hs : Int32) (sl : Int32) (sn : Int32) (sc : Nat → Int32) (x : Int32) (n : Int32) : Mv l yX1_renew cX1_renew 3 1 23 D cI cB cS [.ref (a (10 + k)), .int x, .int n] [oS a k hs sl sn, ia (a (14 + k)) cI 60 sc] (fun w => w = [oS a k 1 x n, ia (a (14 + k)) cI 60 (fun _ => 0)]) := by
  refine Mv.of (by decide) (Nat.le_of_ble_eq_true rfl) ?_
  intro zp ze zs zm zb zt zc zz zA hA C hnm
  refine v_lv0 [(0, .ref (a (10 + k))), (1, .int x), (2, .int n)] rfl ?_
  refine v_aload_n C dX1_renew_0 0 rfl ?_
  refine v_get C f_X1_9 dX1_renew_1 0 rfl rfl ?_
  refine v_iconst C 0 dX1_renew_4 (by decide) ?_
  refine v_callSv C l_X1_15 (m_J7_fill_53178 (a (14 + k)) 60 sc 0 (by decide)) (by decide) dX1_renew_5 [1] [0] (wr := [oS a k hs sl sn]) (by decide) rfl rfl (by decide) (by decide) rfl (rest := []) rfl (Nat.le_of_ble_eq_true rfl) (by decide) (fun w1 h2 => ?_)
  subst h2
  refine v_ws0 [oS a k hs sl sn, ia (a (14 + k)) cI 60 (fun _ => (0 : Int32))] rfl ?_
  refine v_aload_n C dX1_renew_8 0 rfl ?_
  refine v_iconst C 1 dX1_renew_9 (by decide) ?_
  refine v_put C p_X1_21 [oS a k 1 sl sn, ia (a (14 + k)) cI 60 (fun _ => (0 : Int32))] dX1_renew_10 0 rfl rfl rfl (Nat.le_of_ble_eq_true rfl) rfl ?_
  refine v_aload_n C dX1_renew_13 0 rfl ?_
  refine v_iload_n C dX1_renew_14 1 rfl ?_
  refine v_put C p_X1_25 [oS a k 1 x sn, ia (a (14 + k)) cI 60 (fun _ => (0 : Int32))] dX1_renew_15 0 rfl rfl rfl (Nat.le_of_ble_eq_true rfl) rfl ?_
  refine v_aload_n C dX1_renew_18 0 rfl ?_
  refine v_iload_n C dX1_renew_19 2 rfl ?_
  refine v_put C p_X1_29 [oS a k 1 x n, ia (a (14 + k)) cI 60 (fun _ => (0 : Int32))] dX1_renew_20 0 rfl rfl rfl (Nat.le_of_ble_eq_true rfl) rfl ?_
  exact v_retv C hA dX1_renew_23 (rfl)
set_option maxHeartbeats 4000000 in
set_option maxRecDepth 100000 in
theorem m_X0_makeAnew {l : Launch} {D : va_G} {cI cB cS : ClassId} (a : Nat → Nat) (nj nc : Nat) (si : Int32) (ju : Int32) (ca : Int32) (la : Int32) (sw : Int32) (sk : Int32) (rd : Int32) (kd : Nat → Int32) (ag : Nat → Int32) (de : Nat → Int32) (ta : Nat → Int32) (we : Nat → Int32) (tc : Nat → Int32) (hnj : nj ≤ 5) (hnc : nc ≤ 5) : Mv l yX0_makeAnew cX0_makeAnew 3 2 43 D cI cB cS [.ref (a 3), .ref (a 2)] [oK a si ju ca la sw sk rd, ia (a 20) cI 5 kd, ia (a 21) cI 5 ag, ia (a 22) cI 5 de, ia (a 23) cI 5 ta, ia (a 24) cI 5 we, oX a (nI (3 + 3 * nj + 4 * nc)) (nI (3 + 3 * nj)), ia (a 6) cI 60 tc] (fun w => w = [oK a (tmF tc) (nI nj) (nI nc) 0 0 0 0, ia (a 20) cI 5 (tbF (vKd tc) kd nj), ia (a 21) cI 5 (tbF (vAg tc) ag nj), ia (a 22) cI 5 (tbF (vCa tc (3 + 3 * nj) 0) de nc), ia (a 23) cI 5 (tbF (vCa tc (3 + 3 * nj) 1) ta nc), ia (a 24) cI 5 (tbF (vCa tc (3 + 3 * nj) 2) we nc), oX a (nI (3 + 3 * nj + 4 * nc)) (nI (3 + 3 * nj)), ia (a 6) cI 60 tc]) := by
  refine Mv.of (by decide) (Nat.le_of_ble_eq_true rfl) ?_
  intro zp ze zs zm zb zt zc zz zA hA C hnm
  refine v_lv0 [(0, .ref (a 3)), (1, .ref (a 2))] rfl ?_
  refine v_aload_n C dX0_makeAnew_0 0 rfl ?_
  refine v_aload_n C dX0_makeAnew_1 1 rfl ?_
  refine v_callRi C l_X0_40 (m_X3_toldMinutes a (nI (3 + 3 * nj + 4 * nc)) (nI (3 + 3 * nj)) tc) (by decide) dX0_makeAnew_2 [6, 7] rfl 6 rfl rfl rfl (rest := [.ref (a 3)]) rfl (Nat.le_of_ble_eq_true rfl) (by decide) (fun r1 h2 => ?_)
  subst h2
  refine v_put C p_X0_46 [oK a (tmF tc) ju ca la sw sk rd, ia (a 20) cI 5 kd, ia (a 21) cI 5 ag, ia (a 22) cI 5 de, ia (a 23) cI 5 ta, ia (a 24) cI 5 we, oX a (nI (3 + 3 * nj + 4 * nc)) (nI (3 + 3 * nj)), ia (a 6) cI 60 tc] dX0_makeAnew_5 0 rfl rfl rfl (Nat.le_of_ble_eq_true rfl) rfl ?_
  refine v_aload_n C dX0_makeAnew_8 0 rfl ?_
  refine v_aload_n C dX0_makeAnew_9 1 rfl ?_
  refine v_callRi C l_X0_49 (m_X3_toldJurors a (3 + 3 * nj) (nI (3 + 3 * nj + 4 * nc)) (by omega) (by omega)) (by decide) dX0_makeAnew_10 [6] rfl 6 rfl rfl rfl (rest := [.ref (a 3)]) rfl (Nat.le_of_ble_eq_true rfl) (by decide) (fun r3 h4 => ?_)
  subst h4
  refine v_eqi (nI nj) (congrArg nI (by omega)) ?_
  refine v_put C p_X0_37 [oK a (tmF tc) (nI nj) ca la sw sk rd, ia (a 20) cI 5 kd, ia (a 21) cI 5 ag, ia (a 22) cI 5 de, ia (a 23) cI 5 ta, ia (a 24) cI 5 we, oX a (nI (3 + 3 * nj + 4 * nc)) (nI (3 + 3 * nj)), ia (a 6) cI 60 tc] dX0_makeAnew_13 0 rfl rfl rfl (Nat.le_of_ble_eq_true rfl) rfl ?_
  refine v_iconst C 0 dX0_makeAnew_16 (by decide) ?_
  refine v_istore_n C [(2, .int 0), (0, .ref (a 3)), (1, .ref (a 2))] dX0_makeAnew_17 (by decide) rfl ?_
  refine v_ws0 [oK a (tmF tc) (nI nj) ca la sw sk rd, ia (a 20) cI 5 (tbF (vKd tc) kd 0), ia (a 21) cI 5 (tbF (vAg tc) ag 0), ia (a 22) cI 5 de, ia (a 23) cI 5 ta, ia (a 24) cI 5 we, oX a (nI (3 + 3 * nj + 4 * nc)) (nI (3 + 3 * nj)), ia (a 6) cI 60 tc] (by rw [tbF_0, tbF_0]) ?_
  have lp : ∀ (n_6 : Nat) (j : Nat), nj - j < n_6 → (j ≤ nj) → V zp l ze (rmOf 2 43) zs zm [.ref (a 3), .ref (a 2)].toArray zb zt zc D (IM zA zs) (QMv zb [.ref (a 3), .ref (a 2)].toArray zs D cI cB cS [oK a si ju ca la sw sk rd, ia (a 20) cI 5 kd, ia (a 21) cI 5 ag, ia (a 22) cI 5 de, ia (a 23) cI 5 ta, ia (a 24) cI 5 we, oX a (nI (3 + 3 * nj + 4 * nc)) (nI (3 + 3 * nj)), ia (a 6) cI 60 tc] zz (fun w => w = [oK a (tmF tc) (nI nj) (nI nc) 0 0 0 0, ia (a 20) cI 5 (tbF (vKd tc) kd nj), ia (a 21) cI 5 (tbF (vAg tc) ag nj), ia (a 22) cI 5 (tbF (vCa tc (3 + 3 * nj) 0) de nc), ia (a 23) cI 5 (tbF (vCa tc (3 + 3 * nj) 1) ta nc), ia (a 24) cI 5 (tbF (vCa tc (3 + 3 * nj) 2) we nc), oX a (nI (3 + 3 * nj + 4 * nc)) (nI (3 + 3 * nj)), ia (a 6) cI 60 tc])) 0 0 3 [oK a (tmF tc) (nI nj) ca la sw sk rd, ia (a 20) cI 5 (tbF (vKd tc) kd j), ia (a 21) cI 5 (tbF (vAg tc) ag j), ia (a 22) cI 5 de, ia (a 23) cI 5 ta, ia (a 24) cI 5 we, oX a (nI (3 + 3 * nj + 4 * nc)) (nI (3 + 3 * nj)), ia (a 6) cI 60 tc] [(2, .int (nI j)), (0, .ref (a 3)), (1, .ref (a 2))] 18 [] := by
    intro n_6
    induction n_6 with
    | zero => intro j b5; exact absurd b5 (by omega)
    | succ n_6 ihn_6 =>
      intro j b5 hj
      refine v_iload_n C dX0_makeAnew_18 0 rfl ?_
      refine v_aload_n C dX0_makeAnew_19 1 rfl ?_
      refine v_get C f_X0_37 dX0_makeAnew_20 0 rfl rfl ?_
      refine v_icmp_ge C 54 dX0_makeAnew_23 (by decide) (fun c7 => ?_) (fun c7 => ?_)
      · have nc7 : nj ≤ j := nI_leD c7 (by omega)
        have hje : j = nj := by omega
        refine v_ws0 [oK a (tmF tc) (nI nj) ca la sw sk rd, ia (a 20) cI 5 (tbF (vKd tc) kd nj), ia (a 21) cI 5 (tbF (vAg tc) ag nj), ia (a 22) cI 5 de, ia (a 23) cI 5 ta, ia (a 24) cI 5 we, oX a (nI (3 + 3 * nj + 4 * nc)) (nI (3 + 3 * nj)), ia (a 6) cI 60 tc] (by rw [hje]) ?_
        refine v_aload_n C dX0_makeAnew_54 1 rfl ?_
        refine v_aload_n C dX0_makeAnew_55 2 rfl ?_
        refine v_callRi C l_X0_59 (m_X3_toldCases a (3 + 3 * nj) (3 + 3 * nj + 4 * nc) (by omega) (by omega)) (by decide) dX0_makeAnew_56 [6] rfl 6 rfl rfl rfl (rest := [.ref (a 3)]) rfl (Nat.le_of_ble_eq_true rfl) (by decide) (fun r8 h9 => ?_)
        subst h9
        refine v_eqi (nI nc) (congrArg nI (by omega)) ?_
        refine v_put C p_X0_33 [oK a (tmF tc) (nI nj) (nI nc) la sw sk rd, ia (a 20) cI 5 (tbF (vKd tc) kd nj), ia (a 21) cI 5 (tbF (vAg tc) ag nj), ia (a 22) cI 5 de, ia (a 23) cI 5 ta, ia (a 24) cI 5 we, oX a (nI (3 + 3 * nj + 4 * nc)) (nI (3 + 3 * nj)), ia (a 6) cI 60 tc] dX0_makeAnew_59 0 rfl rfl rfl (Nat.le_of_ble_eq_true rfl) rfl ?_
        refine v_iconst C 0 dX0_makeAnew_62 (by decide) ?_
        refine v_istore_n C [(2, .int 0), (0, .ref (a 3)), (1, .ref (a 2))] dX0_makeAnew_63 (by decide) rfl ?_
        refine v_ws0 [oK a (tmF tc) (nI nj) (nI nc) la sw sk rd, ia (a 20) cI 5 (tbF (vKd tc) kd nj), ia (a 21) cI 5 (tbF (vAg tc) ag nj), ia (a 22) cI 5 (tbF (vCa tc (3 + 3 * nj) 0) de 0), ia (a 23) cI 5 (tbF (vCa tc (3 + 3 * nj) 1) ta 0), ia (a 24) cI 5 (tbF (vCa tc (3 + 3 * nj) 2) we 0), oX a (nI (3 + 3 * nj + 4 * nc)) (nI (3 + 3 * nj)), ia (a 6) cI 60 tc] (by rw [tbF_0, tbF_0, tbF_0]) ?_
        have lq : ∀ (n_11 : Nat) (c : Nat), nc - c < n_11 → (c ≤ nc) → V zp l ze (rmOf 2 43) zs zm [.ref (a 3), .ref (a 2)].toArray zb zt zc D (IM zA zs) (QMv zb [.ref (a 3), .ref (a 2)].toArray zs D cI cB cS [oK a si ju ca la sw sk rd, ia (a 20) cI 5 kd, ia (a 21) cI 5 ag, ia (a 22) cI 5 de, ia (a 23) cI 5 ta, ia (a 24) cI 5 we, oX a (nI (3 + 3 * nj + 4 * nc)) (nI (3 + 3 * nj)), ia (a 6) cI 60 tc] zz (fun w => w = [oK a (tmF tc) (nI nj) (nI nc) 0 0 0 0, ia (a 20) cI 5 (tbF (vKd tc) kd nj), ia (a 21) cI 5 (tbF (vAg tc) ag nj), ia (a 22) cI 5 (tbF (vCa tc (3 + 3 * nj) 0) de nc), ia (a 23) cI 5 (tbF (vCa tc (3 + 3 * nj) 1) ta nc), ia (a 24) cI 5 (tbF (vCa tc (3 + 3 * nj) 2) we nc), oX a (nI (3 + 3 * nj + 4 * nc)) (nI (3 + 3 * nj)), ia (a 6) cI 60 tc])) 0 0 3 [oK a (tmF tc) (nI nj) (nI nc) la sw sk rd, ia (a 20) cI 5 (tbF (vKd tc) kd nj), ia (a 21) cI 5 (tbF (vAg tc) ag nj), ia (a 22) cI 5 (tbF (vCa tc (3 + 3 * nj) 0) de c), ia (a 23) cI 5 (tbF (vCa tc (3 + 3 * nj) 1) ta c), ia (a 24) cI 5 (tbF (vCa tc (3 + 3 * nj) 2) we c), oX a (nI (3 + 3 * nj + 4 * nc)) (nI (3 + 3 * nj)), ia (a 6) cI 60 tc] [(2, .int (nI c)), (0, .ref (a 3)), (1, .ref (a 2))] 64 [] := by
          intro n_11
          induction n_11 with
          | zero => intro c b10; exact absurd b10 (by omega)
          | succ n_11 ihn_11 =>
            intro c b10 hc
            refine v_iload_n C dX0_makeAnew_64 0 rfl ?_
            refine v_aload_n C dX0_makeAnew_65 1 rfl ?_
            refine v_get C f_X0_33 dX0_makeAnew_66 0 rfl rfl ?_
            refine v_icmp_ge C 114 dX0_makeAnew_69 (by decide) (fun c12 => ?_) (fun c12 => ?_)
            · have nc12 : nc ≤ c := nI_leD c12 (by omega)
              have hce : c = nc := by omega
              refine v_ws0 [oK a (tmF tc) (nI nj) (nI nc) la sw sk rd, ia (a 20) cI 5 (tbF (vKd tc) kd nj), ia (a 21) cI 5 (tbF (vAg tc) ag nj), ia (a 22) cI 5 (tbF (vCa tc (3 + 3 * nj) 0) de nc), ia (a 23) cI 5 (tbF (vCa tc (3 + 3 * nj) 1) ta nc), ia (a 24) cI 5 (tbF (vCa tc (3 + 3 * nj) 2) we nc), oX a (nI (3 + 3 * nj + 4 * nc)) (nI (3 + 3 * nj)), ia (a 6) cI 60 tc] (by rw [hce]) ?_
              refine v_aload_n C dX0_makeAnew_114 1 rfl ?_
              refine v_iconst C 0 dX0_makeAnew_115 (by decide) ?_
              refine v_put C p_X0_66 [oK a (tmF tc) (nI nj) (nI nc) 0 sw sk rd, ia (a 20) cI 5 (tbF (vKd tc) kd nj), ia (a 21) cI 5 (tbF (vAg tc) ag nj), ia (a 22) cI 5 (tbF (vCa tc (3 + 3 * nj) 0) de nc), ia (a 23) cI 5 (tbF (vCa tc (3 + 3 * nj) 1) ta nc), ia (a 24) cI 5 (tbF (vCa tc (3 + 3 * nj) 2) we nc), oX a (nI (3 + 3 * nj + 4 * nc)) (nI (3 + 3 * nj)), ia (a 6) cI 60 tc] dX0_makeAnew_116 0 rfl rfl rfl (Nat.le_of_ble_eq_true rfl) rfl ?_
              refine v_aload_n C dX0_makeAnew_119 1 rfl ?_
              refine v_iconst C 0 dX0_makeAnew_120 (by decide) ?_
              refine v_put C p_X0_69 [oK a (tmF tc) (nI nj) (nI nc) 0 0 sk rd, ia (a 20) cI 5 (tbF (vKd tc) kd nj), ia (a 21) cI 5 (tbF (vAg tc) ag nj), ia (a 22) cI 5 (tbF (vCa tc (3 + 3 * nj) 0) de nc), ia (a 23) cI 5 (tbF (vCa tc (3 + 3 * nj) 1) ta nc), ia (a 24) cI 5 (tbF (vCa tc (3 + 3 * nj) 2) we nc), oX a (nI (3 + 3 * nj + 4 * nc)) (nI (3 + 3 * nj)), ia (a 6) cI 60 tc] dX0_makeAnew_121 0 rfl rfl rfl (Nat.le_of_ble_eq_true rfl) rfl ?_
              refine v_aload_n C dX0_makeAnew_124 1 rfl ?_
              refine v_iconst C 0 dX0_makeAnew_125 (by decide) ?_
              refine v_put C p_X0_72 [oK a (tmF tc) (nI nj) (nI nc) 0 0 0 rd, ia (a 20) cI 5 (tbF (vKd tc) kd nj), ia (a 21) cI 5 (tbF (vAg tc) ag nj), ia (a 22) cI 5 (tbF (vCa tc (3 + 3 * nj) 0) de nc), ia (a 23) cI 5 (tbF (vCa tc (3 + 3 * nj) 1) ta nc), ia (a 24) cI 5 (tbF (vCa tc (3 + 3 * nj) 2) we nc), oX a (nI (3 + 3 * nj + 4 * nc)) (nI (3 + 3 * nj)), ia (a 6) cI 60 tc] dX0_makeAnew_126 0 rfl rfl rfl (Nat.le_of_ble_eq_true rfl) rfl ?_
              refine v_aload_n C dX0_makeAnew_129 1 rfl ?_
              refine v_iconst C 0 dX0_makeAnew_130 (by decide) ?_
              refine v_put C p_X0_75 [oK a (tmF tc) (nI nj) (nI nc) 0 0 0 0, ia (a 20) cI 5 (tbF (vKd tc) kd nj), ia (a 21) cI 5 (tbF (vAg tc) ag nj), ia (a 22) cI 5 (tbF (vCa tc (3 + 3 * nj) 0) de nc), ia (a 23) cI 5 (tbF (vCa tc (3 + 3 * nj) 1) ta nc), ia (a 24) cI 5 (tbF (vCa tc (3 + 3 * nj) 2) we nc), oX a (nI (3 + 3 * nj + 4 * nc)) (nI (3 + 3 * nj)), ia (a 6) cI 60 tc] dX0_makeAnew_131 0 rfl rfl rfl (Nat.le_of_ble_eq_true rfl) rfl ?_
              exact v_retv C hA dX0_makeAnew_134 (rfl)
            · have nc12 : c < nc := nI_ltD c12 (by omega)
              refine v_aload_n C dX0_makeAnew_72 1 rfl ?_
              refine v_get C f_X0_18 dX0_makeAnew_73 0 rfl rfl ?_
              refine v_iload_n C dX0_makeAnew_76 0 rfl ?_
              refine v_aload_n C dX0_makeAnew_77 2 rfl ?_
              refine v_iload_n C dX0_makeAnew_78 0 rfl ?_
              refine v_iconst C 0 dX0_makeAnew_79 (by decide) ?_
              refine v_callRi C l_X0_62 (m_X3_toldOfCase a (3 + 3 * nj) c 0 (nI (3 + 3 * nj + 4 * nc)) tc (by omega)) (by decide) dX0_makeAnew_80 [6, 7] rfl 6 rfl rfl rfl (rest := [.int (nI c), .ref (a 22)]) rfl (Nat.le_of_ble_eq_true rfl) (by decide) (fun r13 h14 => ?_)
              subst h14
              refine v_iastN C [oK a (tmF tc) (nI nj) (nI nc) la sw sk rd, ia (a 20) cI 5 (tbF (vKd tc) kd nj), ia (a 21) cI 5 (tbF (vAg tc) ag nj), ia (a 22) cI 5 (upd (tbF (vCa tc (3 + 3 * nj) 0) de c) c (tc ((3 + 3 * nj) + 4 * c + 1 + 0) - 48)), ia (a 23) cI 5 (tbF (vCa tc (3 + 3 * nj) 1) ta c), ia (a 24) cI 5 (tbF (vCa tc (3 + 3 * nj) 2) we c), oX a (nI (3 + 3 * nj + 4 * nc)) (nI (3 + 3 * nj)), ia (a 6) cI 60 tc] dX0_makeAnew_83 3 rfl c rfl (by omega) (by decide) rfl ?_
              refine v_ws0 [oK a (tmF tc) (nI nj) (nI nc) la sw sk rd, ia (a 20) cI 5 (tbF (vKd tc) kd nj), ia (a 21) cI 5 (tbF (vAg tc) ag nj), ia (a 22) cI 5 (tbF (vCa tc (3 + 3 * nj) 0) de (c + 1)), ia (a 23) cI 5 (tbF (vCa tc (3 + 3 * nj) 1) ta c), ia (a 24) cI 5 (tbF (vCa tc (3 + 3 * nj) 2) we c), oX a (nI (3 + 3 * nj + 4 * nc)) (nI (3 + 3 * nj)), ia (a 6) cI 60 tc] (by rw [← tbF_s (vCa tc (3 + 3 * nj) 0)]; rfl) ?_
              refine v_aload_n C dX0_makeAnew_84 1 rfl ?_
              refine v_get C f_X0_21 dX0_makeAnew_85 0 rfl rfl ?_
              refine v_iload_n C dX0_makeAnew_88 0 rfl ?_
              refine v_aload_n C dX0_makeAnew_89 2 rfl ?_
              refine v_iload_n C dX0_makeAnew_90 0 rfl ?_
              refine v_iconst C 1 dX0_makeAnew_91 (by decide) ?_
              refine v_callRi C l_X0_62 (m_X3_toldOfCase a (3 + 3 * nj) c 1 (nI (3 + 3 * nj + 4 * nc)) tc (by omega)) (by decide) dX0_makeAnew_92 [6, 7] rfl 6 rfl rfl rfl (rest := [.int (nI c), .ref (a 23)]) rfl (Nat.le_of_ble_eq_true rfl) (by decide) (fun r15 h16 => ?_)
              subst h16
              refine v_iastN C [oK a (tmF tc) (nI nj) (nI nc) la sw sk rd, ia (a 20) cI 5 (tbF (vKd tc) kd nj), ia (a 21) cI 5 (tbF (vAg tc) ag nj), ia (a 22) cI 5 (tbF (vCa tc (3 + 3 * nj) 0) de (c + 1)), ia (a 23) cI 5 (upd (tbF (vCa tc (3 + 3 * nj) 1) ta c) c (tc ((3 + 3 * nj) + 4 * c + 1 + 1) - 48)), ia (a 24) cI 5 (tbF (vCa tc (3 + 3 * nj) 2) we c), oX a (nI (3 + 3 * nj + 4 * nc)) (nI (3 + 3 * nj)), ia (a 6) cI 60 tc] dX0_makeAnew_95 4 rfl c rfl (by omega) (by decide) rfl ?_
              refine v_ws0 [oK a (tmF tc) (nI nj) (nI nc) la sw sk rd, ia (a 20) cI 5 (tbF (vKd tc) kd nj), ia (a 21) cI 5 (tbF (vAg tc) ag nj), ia (a 22) cI 5 (tbF (vCa tc (3 + 3 * nj) 0) de (c + 1)), ia (a 23) cI 5 (tbF (vCa tc (3 + 3 * nj) 1) ta (c + 1)), ia (a 24) cI 5 (tbF (vCa tc (3 + 3 * nj) 2) we c), oX a (nI (3 + 3 * nj + 4 * nc)) (nI (3 + 3 * nj)), ia (a 6) cI 60 tc] (by rw [← tbF_s (vCa tc (3 + 3 * nj) 1)]; rfl) ?_
              refine v_aload_n C dX0_makeAnew_96 1 rfl ?_
              refine v_get C f_X0_24 dX0_makeAnew_97 0 rfl rfl ?_
              refine v_iload_n C dX0_makeAnew_100 0 rfl ?_
              refine v_aload_n C dX0_makeAnew_101 2 rfl ?_
              refine v_iload_n C dX0_makeAnew_102 0 rfl ?_
              refine v_iconst C 2 dX0_makeAnew_103 (by decide) ?_
              refine v_callRi C l_X0_62 (m_X3_toldOfCase a (3 + 3 * nj) c 2 (nI (3 + 3 * nj + 4 * nc)) tc (by omega)) (by decide) dX0_makeAnew_104 [6, 7] rfl 6 rfl rfl rfl (rest := [.int (nI c), .ref (a 24)]) rfl (Nat.le_of_ble_eq_true rfl) (by decide) (fun r17 h18 => ?_)
              subst h18
              refine v_iastN C [oK a (tmF tc) (nI nj) (nI nc) la sw sk rd, ia (a 20) cI 5 (tbF (vKd tc) kd nj), ia (a 21) cI 5 (tbF (vAg tc) ag nj), ia (a 22) cI 5 (tbF (vCa tc (3 + 3 * nj) 0) de (c + 1)), ia (a 23) cI 5 (tbF (vCa tc (3 + 3 * nj) 1) ta (c + 1)), ia (a 24) cI 5 (upd (tbF (vCa tc (3 + 3 * nj) 2) we c) c (tc ((3 + 3 * nj) + 4 * c + 1 + 2) - 48)), oX a (nI (3 + 3 * nj + 4 * nc)) (nI (3 + 3 * nj)), ia (a 6) cI 60 tc] dX0_makeAnew_107 5 rfl c rfl (by omega) (by decide) rfl ?_
              refine v_ws0 [oK a (tmF tc) (nI nj) (nI nc) la sw sk rd, ia (a 20) cI 5 (tbF (vKd tc) kd nj), ia (a 21) cI 5 (tbF (vAg tc) ag nj), ia (a 22) cI 5 (tbF (vCa tc (3 + 3 * nj) 0) de (c + 1)), ia (a 23) cI 5 (tbF (vCa tc (3 + 3 * nj) 1) ta (c + 1)), ia (a 24) cI 5 (tbF (vCa tc (3 + 3 * nj) 2) we (c + 1)), oX a (nI (3 + 3 * nj + 4 * nc)) (nI (3 + 3 * nj)), ia (a 6) cI 60 tc] (by rw [← tbF_s (vCa tc (3 + 3 * nj) 2)]; rfl) ?_
              refine v_iinc C (nI (c + 1)) [(2, .int (nI (c + 1))), (0, .ref (a 3)), (1, .ref (a 2))] 0 dX0_makeAnew_108 rfl (nI_inc _) (by decide) rfl ?_
              refine v_goto C 64 dX0_makeAnew_111 (by decide) ?_
              exact ihn_11 (c + 1) (by omega) (by omega)
        exact lq (nc - 0 + 1) 0 (by omega) (by omega)
      · have nc7 : j < nj := nI_ltD c7 (by omega)
        refine v_aload_n C dX0_makeAnew_26 1 rfl ?_
        refine v_get C f_X0_9 dX0_makeAnew_27 0 rfl rfl ?_
        refine v_iload_n C dX0_makeAnew_30 0 rfl ?_
        refine v_aload_n C dX0_makeAnew_31 2 rfl ?_
        refine v_iload_n C dX0_makeAnew_32 0 rfl ?_
        refine v_callRi C l_X0_52 (m_X3_toldKind a j (nI (3 + 3 * nj + 4 * nc)) (nI (3 + 3 * nj)) tc (by omega)) (by decide) dX0_makeAnew_33 [6, 7] rfl 6 rfl rfl rfl (rest := [.int (nI j), .ref (a 20)]) rfl (Nat.le_of_ble_eq_true rfl) (by decide) (fun r19 h20 => ?_)
        subst h20
        refine v_iastN C [oK a (tmF tc) (nI nj) ca la sw sk rd, ia (a 20) cI 5 (upd (tbF (vKd tc) kd j) j (kdF (tc (3 + 3 * j + 1)))), ia (a 21) cI 5 (tbF (vAg tc) ag j), ia (a 22) cI 5 de, ia (a 23) cI 5 ta, ia (a 24) cI 5 we, oX a (nI (3 + 3 * nj + 4 * nc)) (nI (3 + 3 * nj)), ia (a 6) cI 60 tc] dX0_makeAnew_36 1 rfl j rfl (by omega) (by decide) rfl ?_
        refine v_ws0 [oK a (tmF tc) (nI nj) ca la sw sk rd, ia (a 20) cI 5 (tbF (vKd tc) kd (j + 1)), ia (a 21) cI 5 (tbF (vAg tc) ag j), ia (a 22) cI 5 de, ia (a 23) cI 5 ta, ia (a 24) cI 5 we, oX a (nI (3 + 3 * nj + 4 * nc)) (nI (3 + 3 * nj)), ia (a 6) cI 60 tc] (by rw [← tbF_s (vKd tc)]; rfl) ?_
        refine v_aload_n C dX0_makeAnew_37 1 rfl ?_
        refine v_get C f_X0_15 dX0_makeAnew_38 0 rfl rfl ?_
        refine v_iload_n C dX0_makeAnew_41 0 rfl ?_
        refine v_aload_n C dX0_makeAnew_42 2 rfl ?_
        refine v_iload_n C dX0_makeAnew_43 0 rfl ?_
        refine v_callRi C l_X0_56 (m_X3_toldAge a j (nI (3 + 3 * nj + 4 * nc)) (nI (3 + 3 * nj)) tc (by omega)) (by decide) dX0_makeAnew_44 [6, 7] rfl 6 rfl rfl rfl (rest := [.int (nI j), .ref (a 21)]) rfl (Nat.le_of_ble_eq_true rfl) (by decide) (fun r21 h22 => ?_)
        subst h22
        refine v_iastN C [oK a (tmF tc) (nI nj) ca la sw sk rd, ia (a 20) cI 5 (tbF (vKd tc) kd (j + 1)), ia (a 21) cI 5 (upd (tbF (vAg tc) ag j) j (tc (3 + 3 * j + 2) - 48)), ia (a 22) cI 5 de, ia (a 23) cI 5 ta, ia (a 24) cI 5 we, oX a (nI (3 + 3 * nj + 4 * nc)) (nI (3 + 3 * nj)), ia (a 6) cI 60 tc] dX0_makeAnew_47 2 rfl j rfl (by omega) (by decide) rfl ?_
        refine v_ws0 [oK a (tmF tc) (nI nj) ca la sw sk rd, ia (a 20) cI 5 (tbF (vKd tc) kd (j + 1)), ia (a 21) cI 5 (tbF (vAg tc) ag (j + 1)), ia (a 22) cI 5 de, ia (a 23) cI 5 ta, ia (a 24) cI 5 we, oX a (nI (3 + 3 * nj + 4 * nc)) (nI (3 + 3 * nj)), ia (a 6) cI 60 tc] (by rw [← tbF_s (vAg tc)]; rfl) ?_
        refine v_iinc C (nI (j + 1)) [(2, .int (nI (j + 1))), (0, .ref (a 3)), (1, .ref (a 2))] 0 dX0_makeAnew_48 rfl (nI_inc _) (by decide) rfl ?_
        refine v_goto C 18 dX0_makeAnew_51 (by decide) ?_
        exact ihn_6 (j + 1) (by omega) (by omega)
  exact lp (nj - 0 + 1) 0 (by omega) (by omega)
set_option maxHeartbeats 4000000 in
set_option maxRecDepth 100000 in
theorem m_X4_faulty {l : Launch} {D : va_G} {cI cB cS : ClassId} (a : Nat → Nat) (tr : Int32) (fa : Int32) (x : Int32) : Mi l yX4_faulty cX4_faulty 2 (some .int) 0 0 D cI cB cS [.ref (a 0), .int x] [oC a tr fa] (fun r w => r = (-10) - x ∧ w = [oC a tr x]) := by
  refine Mi.of (by decide) (Nat.le_of_ble_eq_true rfl) ?_
  intro zp ze zs zm zb zt zc zz zA hA C hnm
  refine v_lv0 [(0, .ref (a 0)), (1, .int x)] rfl ?_
  refine v_aload_n C dX4_faulty_0 0 rfl ?_
  refine v_iload_n C dX4_faulty_1 1 rfl ?_
  refine v_put C p_X4_45 [oC a tr x] dX4_faulty_2 0 rfl rfl rfl (Nat.le_of_ble_eq_true rfl) rfl ?_
  refine v_bipush C (-10) dX4_faulty_5 (by decide) ?_
  refine v_iload_n C dX4_faulty_7 1 rfl ?_
  refine v_isub C dX4_faulty_8 ?_
  exact v_reti C hA dX4_faulty_9 rfl (⟨rfl, rfl⟩)
set_option maxHeartbeats 4000000 in
set_option maxRecDepth 100000 in
theorem m_X4_leaveInTrace {l : Launch} {D : va_G} {cI cB cS : ClassId} (a : Nat → Nat) (tr : Int32) (fa : Int32) (x : Int32) : Mv l yX4_leaveInTrace cX4_leaveInTrace 2 0 0 D cI cB cS [.ref (a 0), .int x] [oC a tr fa] (fun w => w = [oC a (31 * tr + x) fa]) := by
  refine Mv.of (by decide) (Nat.le_of_ble_eq_true rfl) ?_
  intro zp ze zs zm zb zt zc zz zA hA C hnm
  refine v_lv0 [(0, .ref (a 0)), (1, .int x)] rfl ?_
  refine v_aload_n C dX4_leaveInTrace_0 0 rfl ?_
  refine v_bipush C 31 dX4_leaveInTrace_1 (by decide) ?_
  refine v_aload_n C dX4_leaveInTrace_3 0 rfl ?_
  refine v_get C f_X4_227 dX4_leaveInTrace_4 0 rfl rfl ?_
  refine v_imul C dX4_leaveInTrace_7 ?_
  refine v_iload_n C dX4_leaveInTrace_8 1 rfl ?_
  refine v_iadd C dX4_leaveInTrace_9 ?_
  refine v_put C p_X4_227 [oC a ((31 * tr) + x) fa] dX4_leaveInTrace_10 0 rfl rfl rfl (Nat.le_of_ble_eq_true rfl) rfl ?_
  exact v_retv C hA dX4_leaveInTrace_13 (rfl)
set_option maxHeartbeats 4000000 in
set_option maxRecDepth 100000 in
theorem m_X4_childTelling {l : Launch} {D : va_G} {cI cB cS : ClassId} (a : Nat → Nat) (j : Nat) (tr : Int32) (fa : Int32) (si : Int32) (ju : Int32) (ca : Int32) (la : Int32) (sw : Int32) (sk : Int32) (rd : Int32) (ag : Nat → Int32) (hj : j < 5) : Mi l yX4_childTelling cX4_childTelling 2 (some .int) 1 21 D cI cB cS [.ref (a 0), .int (nI j)] [oC a tr fa, oK a si ju ca la sw sk rd, ia (a 21) cI 5 ag] (fun r w => r = ag j ∧ w = [oC a (31 * tr + 1) fa, oK a si ju ca la sw sk rd, ia (a 21) cI 5 ag]) := by
  refine Mi.of (by decide) (Nat.le_of_ble_eq_true rfl) ?_
  intro zp ze zs zm zb zt zc zz zA hA C hnm
  refine v_lv0 [(0, .ref (a 0)), (1, .int (nI j))] rfl ?_
  refine v_aload_n C dX4_childTelling_0 0 rfl ?_
  refine v_iconst C 1 dX4_childTelling_1 (by decide) ?_
  refine v_callMv C l_X4_223 (m_X4_leaveInTrace a tr fa 1) (by decide) dX4_childTelling_2 [0] [1, 2] (wr := [oK a si ju ca la sw sk rd, ia (a 21) cI 5 ag]) (by decide) rfl rfl (by decide) (by decide) 0 rfl rfl rfl (rest := []) rfl (Nat.le_of_ble_eq_true rfl) (by decide) (fun w1 h2 => ?_)
  subst h2
  refine v_ws0 [oK a si ju ca la sw sk rd, ia (a 21) cI 5 ag, oC a (31 * tr + (1 : Int32)) fa] rfl ?_
  refine v_aload_n C dX4_childTelling_5 0 rfl ?_
  refine v_get C f_X4_27 dX4_childTelling_6 2 rfl rfl ?_
  refine v_get C f_X4_81 dX4_childTelling_9 0 rfl rfl ?_
  refine v_iload_n C dX4_childTelling_12 1 rfl ?_
  refine v_ialdN C dX4_childTelling_13 1 rfl j rfl (by omega) (by decide) ?_
  refine v_perm (ws' := [oC a (31 * tr + (1 : Int32)) fa, oK a si ju ca la sw sk rd, ia (a 21) cI 5 ag]) [2, 0, 1] (by decide) rfl ?_
  exact v_reti C hA dX4_childTelling_14 rfl (⟨rfl, rfl⟩)
set_option maxHeartbeats 4000000 in
set_option maxRecDepth 100000 in
theorem m_X4_hungryTelling {l : Launch} {D : va_G} {cI cB cS : ClassId} (a : Nat → Nat) (j : Nat) (tr : Int32) (fa : Int32) (si : Int32) (ju : Int32) (ca : Int32) (la : Int32) (sw : Int32) (sk : Int32) (rd : Int32) (ag : Nat → Int32) (hj : j < 5) : Mi l yX4_hungryTelling cX4_hungryTelling 2 (some .int) 2 42 D cI cB cS [.ref (a 0), .int (nI j)] [oC a tr fa, oK a si ju ca la sw sk rd, ia (a 21) cI 5 ag] (fun r w => r = ag j + 100 ∧ w = [oC a (31 * (31 * tr + 2) + 1) fa, oK a si ju ca la sw sk rd, ia (a 21) cI 5 ag]) := by
  refine Mi.of (by decide) (Nat.le_of_ble_eq_true rfl) ?_
  intro zp ze zs zm zb zt zc zz zA hA C hnm
  refine v_lv0 [(0, .ref (a 0)), (1, .int (nI j))] rfl ?_
  refine v_aload_n C dX4_hungryTelling_0 0 rfl ?_
  refine v_iconst C 2 dX4_hungryTelling_1 (by decide) ?_
  refine v_callMv C l_X4_223 (m_X4_leaveInTrace a tr fa 2) (by decide) dX4_hungryTelling_2 [0] [1, 2] (wr := [oK a si ju ca la sw sk rd, ia (a 21) cI 5 ag]) (by decide) rfl rfl (by decide) (by decide) 0 rfl rfl rfl (rest := []) rfl (Nat.le_of_ble_eq_true rfl) (by decide) (fun w1 h2 => ?_)
  subst h2
  refine v_ws0 [oK a si ju ca la sw sk rd, ia (a 21) cI 5 ag, oC a (31 * tr + (2 : Int32)) fa] rfl ?_
  refine v_aload_n C dX4_hungryTelling_5 0 rfl ?_
  refine v_iload_n C dX4_hungryTelling_6 1 rfl ?_
  refine v_callMi C l_X4_220 (m_X4_childTelling a j (31 * tr + (2 : Int32)) fa si ju ca la sw sk rd ag hj) (by decide) dX4_hungryTelling_7 [2, 0, 1] [] (wr := []) (by decide) rfl rfl (by decide) (by decide) 2 rfl rfl rfl (rest := []) rfl (Nat.le_of_ble_eq_true rfl) (by decide) (fun r6 w4 h5 => ?_)
  obtain ⟨rfl, rfl⟩ := h5
  refine v_ws0 [oC a (31 * (31 * tr + (2 : Int32)) + 1) fa, oK a si ju ca la sw sk rd, ia (a 21) cI 5 ag] rfl ?_
  refine v_bipush C 100 dX4_hungryTelling_10 (by decide) ?_
  refine v_iadd C dX4_hungryTelling_12 ?_
  exact v_reti C hA dX4_hungryTelling_13 rfl (⟨rfl, rfl⟩)
set_option maxHeartbeats 4000000 in
set_option maxRecDepth 100000 in
theorem m_X4_sweetTelling {l : Launch} {D : va_G} {cI cB cS : ClassId} (a : Nat → Nat) (j : Nat) (tr : Int32) (fa : Int32) (si : Int32) (ju : Int32) (ca : Int32) (la : Int32) (sw : Int32) (sk : Int32) (rd : Int32) (ag : Nat → Int32) (hj : j < 5) : Mi l yX4_sweetTelling cX4_sweetTelling 2 (some .int) 3 63 D cI cB cS [.ref (a 0), .int (nI j)] [oC a tr fa, oK a si ju ca la sw sk rd, ia (a 21) cI 5 ag] (fun r w => r = ag j + 100 + ag j ∧ w = [oC a (31 * (31 * (31 * (31 * tr + 3) + 2) + 1) + 1) fa, oK a si ju ca la sw sk rd, ia (a 21) cI 5 ag]) := by
  refine Mi.of (by decide) (Nat.le_of_ble_eq_true rfl) ?_
  intro zp ze zs zm zb zt zc zz zA hA C hnm
  refine v_lv0 [(0, .ref (a 0)), (1, .int (nI j))] rfl ?_
  refine v_aload_n C dX4_sweetTelling_0 0 rfl ?_
  refine v_iconst C 3 dX4_sweetTelling_1 (by decide) ?_
  refine v_callMv C l_X4_223 (m_X4_leaveInTrace a tr fa 3) (by decide) dX4_sweetTelling_2 [0] [1, 2] (wr := [oK a si ju ca la sw sk rd, ia (a 21) cI 5 ag]) (by decide) rfl rfl (by decide) (by decide) 0 rfl rfl rfl (rest := []) rfl (Nat.le_of_ble_eq_true rfl) (by decide) (fun w1 h2 => ?_)
  subst h2
  refine v_ws0 [oK a si ju ca la sw sk rd, ia (a 21) cI 5 ag, oC a (31 * tr + (3 : Int32)) fa] rfl ?_
  refine v_aload_n C dX4_sweetTelling_5 0 rfl ?_
  refine v_iload_n C dX4_sweetTelling_6 1 rfl ?_
  refine v_callMi C l_X4_217 (m_X4_hungryTelling a j (31 * tr + (3 : Int32)) fa si ju ca la sw sk rd ag hj) (by decide) dX4_sweetTelling_7 [2, 0, 1] [] (wr := []) (by decide) rfl rfl (by decide) (by decide) 2 rfl rfl rfl (rest := []) rfl (Nat.le_of_ble_eq_true rfl) (by decide) (fun r6 w4 h5 => ?_)
  obtain ⟨rfl, rfl⟩ := h5
  refine v_ws0 [oC a (31 * (31 * (31 * tr + (3 : Int32)) + 2) + 1) fa, oK a si ju ca la sw sk rd, ia (a 21) cI 5 ag] rfl ?_
  refine v_aload_n C dX4_sweetTelling_10 0 rfl ?_
  refine v_iload_n C dX4_sweetTelling_11 1 rfl ?_
  refine v_callMi C l_X4_220 (m_X4_childTelling a j (31 * (31 * (31 * tr + (3 : Int32)) + 2) + 1) fa si ju ca la sw sk rd ag hj) (by decide) dX4_sweetTelling_12 [0, 1, 2] [] (wr := []) (by decide) rfl rfl (by decide) (by decide) 0 rfl rfl rfl (rest := [.int (ag j + 100)]) rfl (Nat.le_of_ble_eq_true rfl) (by decide) (fun r9 w7 h8 => ?_)
  obtain ⟨rfl, rfl⟩ := h8
  refine v_ws0 [oC a (31 * (31 * (31 * (31 * tr + (3 : Int32)) + 2) + 1) + 1) fa, oK a si ju ca la sw sk rd, ia (a 21) cI 5 ag] rfl ?_
  refine v_iadd C dX4_sweetTelling_15 ?_
  exact v_reti C hA dX4_sweetTelling_16 rfl (⟨rfl, rfl⟩)
set_option maxHeartbeats 4000000 in
set_option maxRecDepth 100000 in
theorem m_X4_prepareByNumbers {l : Launch} {D : va_G} {cI cB cS : ClassId} (a : Nat → Nat) (nc : Nat) (tr : Int32) (fa : Int32) (si : Int32) (ju : Int32) (la : Int32) (sw : Int32) (sk : Int32) (rd : Int32) (kd : Nat → Int32) (ln : Int32) (lw : Int32) (ss : Int32) (sx : Int32) (un : Int32) (en : Int32) (se : Int32) (tk : Nat → Int32) (od : Nat → Int32) (hnc : nc ≤ 5) : Mv l yX4_prepareByNumbers cX4_prepareByNumbers 2 2 46 D cI cB cS [.ref (a 0)] [oC a tr fa, oK a si ju (nI nc) la sw sk rd, ia (a 20) cI 5 kd, oT a ln lw ss sx un en se, ia (a 31) cI 5 tk, ia (a 32) cI 5 od] (fun w => w = [oC a tr fa, oK a si ju (nI nc) la sw sk rd, ia (a 20) cI 5 kd, oT a (nI nc) la sw sk sw en se, ia (a 31) cI 5 kd, ia (a 32) cI 5 (tbF nI od nc)]) := by
  refine Mv.of (by decide) (Nat.le_of_ble_eq_true rfl) ?_
  intro zp ze zs zm zb zt zc zz zA hA C hnm
  refine v_lv0 [(0, .ref (a 0))] rfl ?_
  refine v_aload_n C dX4_prepareByNumbers_0 0 rfl ?_
  refine v_get C f_X4_36 dX4_prepareByNumbers_1 0 rfl rfl ?_
  refine v_callMv C l_X4_136 (m_X2_prepare a ln lw ss sx un en se tk si ju (nI nc) la sw sk rd kd) (by decide) dX4_prepareByNumbers_4 [3, 4, 1, 2] [0, 5] (wr := [oC a tr fa, ia (a 32) cI 5 od]) (by decide) rfl rfl (by decide) (by decide) 3 rfl rfl rfl (rest := []) rfl (Nat.le_of_ble_eq_true rfl) (by decide) (fun w1 h2 => ?_)
  subst h2
  refine v_ws0 [oC a tr fa, ia (a 32) cI 5 od, oT a 0 la sw sk sw en se, ia (a 31) cI 5 kd, oK a si ju (nI nc) la sw sk rd, ia (a 20) cI 5 kd] rfl ?_
  refine v_iconst C 0 dX4_prepareByNumbers_7 (by decide) ?_
  refine v_istore_n C [(1, .int 0), (0, .ref (a 0))] dX4_prepareByNumbers_8 (by decide) rfl ?_
  refine v_perm (ws' := [oC a tr fa, oK a si ju (nI nc) la sw sk rd, ia (a 20) cI 5 kd, oT a (nI 0) la sw sk sw en se, ia (a 31) cI 5 kd, ia (a 32) cI 5 (tbF nI od 0)]) [0, 4, 5, 2, 3, 1] (by decide) rfl ?_
  refine v_ws0 [oC a tr fa, oK a si ju (nI nc) la sw sk rd, ia (a 20) cI 5 kd, oT a (nI 0) la sw sk sw en se, ia (a 31) cI 5 kd, ia (a 32) cI 5 (tbF nI od 0)] (by rw [tbF_0] <;> rfl) ?_
  have lp : ∀ (n_5 : Nat) (c : Nat), nc - c < n_5 → (c ≤ nc) → V zp l ze (rmOf 2 46) zs zm [.ref (a 0)].toArray zb zt zc D (IM zA zs) (QMv zb [.ref (a 0)].toArray zs D cI cB cS [oC a tr fa, oK a si ju (nI nc) la sw sk rd, ia (a 20) cI 5 kd, oT a ln lw ss sx un en se, ia (a 31) cI 5 tk, ia (a 32) cI 5 od] zz (fun w => w = [oC a tr fa, oK a si ju (nI nc) la sw sk rd, ia (a 20) cI 5 kd, oT a (nI nc) la sw sk sw en se, ia (a 31) cI 5 kd, ia (a 32) cI 5 (tbF nI od nc)])) 0 0 2 [oC a tr fa, oK a si ju (nI nc) la sw sk rd, ia (a 20) cI 5 kd, oT a (nI c) la sw sk sw en se, ia (a 31) cI 5 kd, ia (a 32) cI 5 (tbF nI od c)] [(1, .int (nI c)), (0, .ref (a 0))] 9 [] := by
    intro n_5
    induction n_5 with
    | zero => intro c b4; exact absurd b4 (by omega)
    | succ n_5 ihn_5 =>
      intro c b4 hc
      refine v_iload_n C dX4_prepareByNumbers_9 0 rfl ?_
      refine v_aload_n C dX4_prepareByNumbers_10 1 rfl ?_
      refine v_get C f_X4_27 dX4_prepareByNumbers_11 0 rfl rfl ?_
      refine v_get C f_X4_72 dX4_prepareByNumbers_14 1 rfl rfl ?_
      refine v_icmp_ge C 34 dX4_prepareByNumbers_17 (by decide) (fun c6 => ?_) (fun c6 => ?_)
      · have nc6 : nc ≤ c := nI_leD c6 (by omega)
        have hce : c = nc := by omega
        refine v_ws0 [oC a tr fa, oK a si ju (nI nc) la sw sk rd, ia (a 20) cI 5 kd, oT a (nI nc) la sw sk sw en se, ia (a 31) cI 5 kd, ia (a 32) cI 5 (tbF nI od nc)] (by rw [hce]) ?_
        exact v_retv C hA dX4_prepareByNumbers_34 (rfl)
      · have nc6 : c < nc := nI_ltD c6 (by omega)
        refine v_aload_n C dX4_prepareByNumbers_20 1 rfl ?_
        refine v_get C f_X4_36 dX4_prepareByNumbers_21 0 rfl rfl ?_
        refine v_iload_n C dX4_prepareByNumbers_24 0 rfl ?_
        refine v_callMv C l_X4_235 (m_X2_addToOrder a c la sw sk sw en se (tbF nI od c) (nI c) (by omega)) (by decide) dX4_prepareByNumbers_25 [3, 5] [0, 1, 2, 4] (wr := [oC a tr fa, oK a si ju (nI nc) la sw sk rd, ia (a 20) cI 5 kd, ia (a 31) cI 5 kd]) (by decide) rfl rfl (by decide) (by decide) 3 rfl rfl rfl (rest := []) rfl (Nat.le_of_ble_eq_true rfl) (by decide) (fun w7 h8 => ?_)
        subst h8
        refine v_ws0 [oC a tr fa, oK a si ju (nI nc) la sw sk rd, ia (a 20) cI 5 kd, ia (a 31) cI 5 kd, oT a (nI (c + 1)) la sw sk sw en se, ia (a 32) cI 5 (upd (tbF nI od c) c (nI c))] rfl ?_
        refine v_ws0 [oC a tr fa, oK a si ju (nI nc) la sw sk rd, ia (a 20) cI 5 kd, ia (a 31) cI 5 kd, oT a (nI (c + 1)) la sw sk sw en se, ia (a 32) cI 5 (tbF nI od (c + 1))] (by rw [← tbF_s nI]) ?_
        refine v_iinc C (nI (c + 1)) [(1, .int (nI (c + 1))), (0, .ref (a 0))] 0 dX4_prepareByNumbers_28 rfl (nI_inc _) (by decide) rfl ?_
        refine v_goto C 9 dX4_prepareByNumbers_31 (by decide) ?_
        refine v_perm (ws' := [oC a tr fa, oK a si ju (nI nc) la sw sk rd, ia (a 20) cI 5 kd, oT a (nI (c + 1)) la sw sk sw en se, ia (a 31) cI 5 kd, ia (a 32) cI 5 (tbF nI od (c + 1))]) [0, 1, 2, 4, 3, 5] (by decide) rfl ?_
        exact ihn_5 (c + 1) (by omega) (by omega)
  exact lp (nc - 0 + 1) 0 (by omega) (by omega)
