set_option maxHeartbeats 4000000 in
set_option maxRecDepth 100000 in
theorem C_Wo_makeChoice (l : Launch) {V : gV} {ad r1 r2 r3 : Nat → Nat} {nY : Nat} {ix bu : Nat → Nat} {np : Nat} {st sr : Nat → Nat} {sx tk : Nat → Nat → Nat} {rn sh sn : Nat → Nat} {yw nw : Nat} {yo ce wo : Nat → Nat} {po ne : Nat → Option Nat} {cs : Nat → Nat} {sv : Nat → Nat → Nat} {mk : Nat} {sp rs : Nat → Int} {bg dp : Nat} (hnw : nw ≤ 10) (hY : nY ≤ 12) (hyY : ∀ w, yo w < nY) (hyo : ∀ w, yo w < 12) (hix : ∀ y, ix y ≤ 2000) (hbu : ∀ y, bu y ≤ 1000000000) (hce : ∀ w, ce w ≤ 1000000) (hwo : ∀ w, wo w ≤ 1000000) (hsv : ∀ a b, sv a b ≤ 1000000) (hcs : ∀ w, cs w < 1024) (hne : ∀ w q, ne w = some q → q < 10) : mWv l y_Wo_makeChoice (w_Wo_makeChoice :: gt) rm_Wo_makeChoice V (wC V ad r1 r2 r3 nY ix bu np st sr sx tk rn sh sn yw nw yo ce wo po ne cs sv mk sp rs bg dp) [.ref (ad 12)] (wC V ad r1 r2 r3 nY ix bu np st sr sx tk rn sh sn yw nw yo ce wo po ne cs sv ((chN (fun S => wS wo S nw) (fun S => allN (agW cs ne yo S) nw) (fun S => sumZ (cS ix yo ce sv nw S) nY) (fun S => oB bu (cS ix yo ce sv nw S) nY) (2 ^ nw - 1)).1) (spN (fun S => wS wo S nw) (fun S => allN (agW cs ne yo S) nw) (fun S => sumZ (cS ix yo ce sv nw S) nY) (fun S => oB bu (cS ix yo ce sv nw S) nY) (cS ix yo ce sv nw) sp (2 ^ nw - 1)) rs bg dp) 0 0 := by
  intro sz
  refine gMet (V := V) (As := [.ref (ad 12)]) (cc := c_Wo_makeChoice) (maxL := 9) (ret := none) (by decide) rfl (Nat.le_of_ble_eq_true rfl) (fun a U h => ⟨h.1, h.2.2.2.1⟩) ?_
  intro p e s m below meth c E hr hlk hnm hv
  refine g_toW (sz := sz) (w := wC V ad r1 r2 r3 nY ix bu np st sr sx tk rn sh sn yw nw yo ce wo po ne cs sv mk sp rs bg dp) hv.2.2.1 hv.2.2.2.2 ?_
  have hA0 : ∀ q : Nat, s.heap.size ≤ q → va_A (wC V ad r1 r2 r3 nY ix bu np st sr sx tk rn sh sn yw nw yo ce wo po ne cs sv mk sp rs bg dp) sz q := fun q h => Or.inr (by rw [← hv.2.1]; exact h)
  have hp : 2 ^ nw ≤ 2 ^ 10 := Nat.pow_le_pow_right (by decide) hnw
  have hp1 : 1 ≤ 2 ^ nw := Nat.one_le_two_pow
  have bC : ∀ S y, 0 ≤ cS ix yo ce sv nw S y ∧ cS ix yo ce sv nw S y ≤ 100000000 := fun S y => cS_abs hnw hix hce hsv
  refine g_iconst (v := nI 0) E d_Wo_makeChoice_0 (by decide) ?_
  refine g_istore_n (lv' := [(1, .int (nI 0)), (0, .ref (ad 12))]) E d_Wo_makeChoice_1 rfl (by decide) rfl ?_
  refine g_iconst (v := nI 0) E d_Wo_makeChoice_2 (by decide) ?_
  refine g_istore_n (lv' := [(2, .int (nI 0)), (1, .int (nI 0)), (0, .ref (ad 12))]) E d_Wo_makeChoice_3 rfl (by decide) rfl ?_
  refine g_iconst (v := nI 0) E d_Wo_makeChoice_4 (by decide) ?_
  refine g_topi (nI_iI 0) ?_
  refine g_istore_n (lv' := [(3, .int (iI ((0 : Nat) : Int))), (2, .int (nI 0)), (1, .int (nI 0)), (0, .ref (ad 12))]) E d_Wo_makeChoice_5 rfl (by decide) rfl ?_
  refine g_aload_n E d_Wo_makeChoice_6 rfl 3 rfl ?_
  refine gpVi (As := []) (rest := []) E gO_w 12 rfl rfl (C_Wo_all l (by omega)) (cs_Wo_77 E rfl rfl ⟨Nat.le_of_ble_eq_true rfl, Nat.le_of_ble_eq_true rfl⟩) rfl rfl (Nat.le_of_ble_eq_true rfl) ⟨Nat.zero_le _, Nat.zero_le _⟩ d_Wo_makeChoice_7 ?_
  refine g_istore (lv' := [(4, .int (nI (2 ^ nw - 1))), (3, .int (iI ((0 : Nat) : Int))), (2, .int (nI 0)), (1, .int (nI 0)), (0, .ref (ad 12))]) E d_Wo_makeChoice_10 (by decide) rfl ?_
  refine g_iconst (v := nI 1) E d_Wo_makeChoice_12 (by decide) ?_
  refine g_istore (lv' := [(5, .int (nI 1)), (4, .int (nI (2 ^ nw - 1))), (3, .int (iI ((0 : Nat) : Int))), (2, .int (nI 0)), (1, .int (nI 0)), (0, .ref (ad 12))]) E d_Wo_makeChoice_13 (by decide) rfl ?_
  refine g_lv [0, 4, 3, 2, 1, 5] rfl ?_
  refine gloop (α := Nat × Nat × Nat × Int × (Nat → Int)) (fun a_ => gW V _ _ (wC V ad r1 r2 r3 nY ix bu np st sr sx tk rn sh sn yw nw yo ce wo po ne cs sv mk a_.2.2.2.2 rs bg dp)) (fun a_ => [(5, .int (nI (a_.1 + 1))), (1, .int (nI a_.2.1)), (2, .int (nI a_.2.2.1)), (3, .int (iI a_.2.2.2.1)), (4, .int (nI (2 ^ nw - 1))), (0, .ref (ad 12))]) (fun a_ => a_.1 + 1 ≤ 2 ^ nw ∧ chN (fun S => wS wo S nw) (fun S => allN (agW cs ne yo S) nw) (fun S => sumZ (cS ix yo ce sv nw S) nY) (fun S => oB bu (cS ix yo ce sv nw S) nY) a_.1 = (a_.2.1, a_.2.2.1, a_.2.2.2.1) ∧ a_.2.2.2.2 = spN (fun S => wS wo S nw) (fun S => allN (agW cs ne yo S) nw) (fun S => sumZ (cS ix yo ce sv nw S) nY) (fun S => oB bu (cS ix yo ce sv nw S) nY) (cS ix yo ce sv nw) sp a_.1 ∧ a_.2.2.1 ≤ 10000000 ∧ 0 ≤ a_.2.2.2.1 ∧ a_.2.2.2.1 ≤ 1200000000) (fun a_ => 2 ^ nw - a_.1) (0, 0, 0, ((0 : Nat) : Int), sp) (⟨hp1, rfl, rfl, by simp, by simp, by simp⟩) ?_
  rintro ⟨j, b, mm, cc, f⟩ hI_15 ih_15
  try dsimp only at hI_15 ih_15 ⊢
  refine g_iload E d_Wo_makeChoice_15 0 rfl ?_
  refine g_iload E d_Wo_makeChoice_17 4 rfl ?_
  refine g_ncmp_gt E 106 d_Wo_makeChoice_19 (by decide) (by omega) (by omega) (fun h1 => ?_) (fun h1 => ?_)
  · refine g_aload_n E d_Wo_makeChoice_106 rfl 5 rfl ?_
    refine g_iload_n E d_Wo_makeChoice_107 rfl 1 rfl ?_
    refine pf_Wo_99 (ws' := wC V ad r1 r2 r3 nY ix bu np st sr sx tk rn sh sn yw nw yo ce wo po ne cs sv b f rs bg dp) E 12 rfl rfl rfl (Nat.le_of_ble_eq_true rfl) rfl d_Wo_makeChoice_108 ?_
    refine g_ws (ws' := wC V ad r1 r2 r3 nY ix bu np st sr sx tk rn sh sn yw nw yo ce wo po ne cs sv ((chN (fun S => wS wo S nw) (fun S => allN (agW cs ne yo S) nw) (fun S => sumZ (cS ix yo ce sv nw S) nY) (fun S => oB bu (cS ix yo ce sv nw S) nY) (2 ^ nw - 1)).1) (spN (fun S => wS wo S nw) (fun S => allN (agW cs ne yo S) nw) (fun S => sumZ (cS ix yo ce sv nw S) nY) (fun S => oB bu (cS ix yo ce sv nw S) nY) (cS ix yo ce sv nw) sp (2 ^ nw - 1)) rs bg dp) (by rw [show 2 ^ nw - 1 = j by omega, hI_15.2.1, hI_15.2.2.1]) ?_
    exact g_vret E hr hlk d_Wo_makeChoice_111 (gq_wv (w1 := fun _ => wC V ad r1 r2 r3 nY ix bu np st sr sx tk rn sh sn yw nw yo ce wo po ne cs sv ((chN (fun S => wS wo S nw) (fun S => allN (agW cs ne yo S) nw) (fun S => sumZ (cS ix yo ce sv nw S) nY) (fun S => oB bu (cS ix yo ce sv nw S) nY) (2 ^ nw - 1)).1) (spN (fun S => wS wo S nw) (fun S => allN (agW cs ne yo S) nw) (fun S => sumZ (cS ix yo ce sv nw S) nY) (fun S => oB bu (cS ix yo ce sv nw S) nY) (cS ix yo ce sv nw) sp (2 ^ nw - 1)) rs bg dp) () trivial)
  · refine g_aload_n E d_Wo_makeChoice_22 rfl 5 rfl ?_
    refine g_iload E d_Wo_makeChoice_23 0 rfl ?_
    refine gpVi (As := [.int (nI (j + 1))]) (rest := []) E gO_w 12 rfl rfl (C_Wo_worthOf l (j + 1) (by omega) (by omega)) (cs_Wo_81 E rfl rfl ⟨Nat.le_of_ble_eq_true rfl, Nat.le_of_ble_eq_true rfl⟩) rfl rfl (Nat.le_of_ble_eq_true rfl) ⟨Nat.zero_le _, Nat.zero_le _⟩ d_Wo_makeChoice_25 ?_
    refine g_istore (lv' := [(6, .int (nI (wS wo (j + 1) nw))), (5, .int (nI (j + 1))), (1, .int (nI b)), (2, .int (nI mm)), (3, .int (iI cc)), (4, .int (nI (2 ^ nw - 1))), (0, .ref (ad 12))]) E d_Wo_makeChoice_28 (by decide) rfl ?_
    refine g_iload E d_Wo_makeChoice_30 0 rfl ?_
    refine g_iload_n E d_Wo_makeChoice_32 rfl 3 rfl ?_
    have b1 := wS_le (wo := wo) (S := j + 1) (n := nw) hwo
    refine g_ncmp_lt E 100 d_Wo_makeChoice_33 (by decide) (by omega) (by omega) (fun h2 => ?_) (fun h2 => ?_)
    · refine g_iinc (lv' := [(5, .int (nI ((j + 1) + 1))), (6, .int (nI (wS wo (j + 1) nw))), (1, .int (nI b)), (2, .int (nI mm)), (3, .int (iI cc)), (4, .int (nI (2 ^ nw - 1))), (0, .ref (ad 12))]) E d_Wo_makeChoice_100 1 rfl (nI_inc _) (by decide) rfl ?_
      refine g_goto E 15 d_Wo_makeChoice_103 (by decide) ?_
      refine g_lv [0, 2, 3, 4, 5, 6] rfl ?_
      exact ih_15 (j + 1, b, mm, cc, f) (⟨by (try dsimp only); omega, by (try dsimp only); rw [chN, hI_15.2.1]; simp [chS, h2]; try omega, by (try dsimp only); rw [spN, hI_15.2.1]; simp [h2, hI_15.2.2.1]; try omega, by (try dsimp only); omega, by (try dsimp only); omega, by (try dsimp only); omega⟩) (by (try dsimp only); omega)
    · refine g_aload_n E d_Wo_makeChoice_36 rfl 6 rfl ?_
      refine g_iload E d_Wo_makeChoice_37 1 rfl ?_
      refine gpVi (As := [.int (nI (j + 1))]) (rest := []) E gO_w 12 rfl rfl (C_Wo_agree l (j + 1) (by omega) (by omega) hcs hne hyo) (cs_Wo_85 E rfl rfl ⟨Nat.le_of_ble_eq_true rfl, Nat.le_of_ble_eq_true rfl⟩) rfl rfl (Nat.le_of_ble_eq_true rfl) ⟨Nat.zero_le _, Nat.zero_le _⟩ d_Wo_makeChoice_39 ?_
      refine g_bif_ne E 48 d_Wo_makeChoice_42 (by decide) (fun h3 => ?_) (fun h3 => ?_)
      · refine g_aload_n E d_Wo_makeChoice_48 rfl 6 rfl ?_
        refine g_iload E d_Wo_makeChoice_49 1 rfl ?_
        refine gwVv (As := [.int (nI (j + 1))]) (rest := []) (w' := wC V ad r1 r2 r3 nY ix bu np st sr sx tk rn sh sn yw nw yo ce wo po ne cs sv mk (cS ix yo ce sv nw (j + 1)) rs bg dp) (mc := 0) (ms := 0) E hA0 12 rfl rfl (C_Wo_spend l (j + 1) (by omega) (by omega) (by omega) hyY hyo hix hce hsv) (cs_Wo_89 E rfl rfl ⟨Nat.le_of_ble_eq_true rfl, Nat.le_of_ble_eq_true rfl⟩) rfl rfl (Nat.le_of_ble_eq_true rfl) ⟨Nat.zero_le _, Nat.zero_le _⟩ d_Wo_makeChoice_51 ?_
        refine g_aload_n E d_Wo_makeChoice_54 rfl 6 rfl ?_
        refine gpVi (As := []) (rest := []) E gO_w 12 rfl rfl (C_Wo_spentInAll l (by omega)) (cs_Wo_93 E rfl rfl ⟨Nat.le_of_ble_eq_true rfl, Nat.le_of_ble_eq_true rfl⟩) rfl rfl (Nat.le_of_ble_eq_true rfl) ⟨Nat.zero_le _, Nat.zero_le _⟩ d_Wo_makeChoice_55 ?_
        refine g_istore (lv' := [(7, .int (iI (sumZ (cS ix yo ce sv nw (j + 1)) nY))), (6, .int (nI (wS wo (j + 1) nw))), (5, .int (nI (j + 1))), (1, .int (nI b)), (2, .int (nI mm)), (3, .int (iI cc)), (4, .int (nI (2 ^ nw - 1))), (0, .ref (ad 12))]) E d_Wo_makeChoice_58 (by decide) rfl ?_
        have b2 := co_bd (n := nY) hY (bC (j + 1))
        refine g_iload E d_Wo_makeChoice_60 1 rfl ?_
        refine g_iload_n E d_Wo_makeChoice_62 rfl 4 rfl ?_
        refine g_ncmp_gt E 72 d_Wo_makeChoice_63 (by decide) (by omega) (by omega) (fun h4 => ?_) (fun h4 => ?_)
        · refine g_iconst (v := nI 1) E d_Wo_makeChoice_72 (by decide) ?_
          refine g_goto E 77 d_Wo_makeChoice_73 (by decide) ?_
          refine g_istore (lv' := [(8, .int (nI 1)), (7, .int (iI (sumZ (cS ix yo ce sv nw (j + 1)) nY))), (6, .int (nI (wS wo (j + 1) nw))), (5, .int (nI (j + 1))), (1, .int (nI b)), (2, .int (nI mm)), (3, .int (iI cc)), (4, .int (nI (2 ^ nw - 1))), (0, .ref (ad 12))]) E d_Wo_makeChoice_77 (by decide) rfl ?_
          refine g_iload E d_Wo_makeChoice_79 0 rfl ?_
          refine g_nif_eq E 100 d_Wo_makeChoice_81 (by decide) (by decide) (fun h5 => absurd h5 (by decide)) (fun _ => ?_)
          have b3 := oB_bd (bu := bu) (n := nY) hY (bC (j + 1))
          have hsp : ∀ y, y < 12 → -100000000 ≤ cS ix yo ce sv nw (j + 1) y ∧ cS ix yo ce sv nw (j + 1) y ≤ 100000000 := fun y _ => ⟨by have := bC (j + 1) y; omega, (bC (j + 1) y).2⟩
          refine g_aload_n E d_Wo_makeChoice_84 rfl 8 rfl ?_
          refine gpVi (As := []) (rest := []) E gO_w 12 rfl rfl (C_Wo_spentOverBudgets l (by omega) hsp hbu) (cs_Wo_96 E rfl rfl ⟨Nat.le_of_ble_eq_true rfl, Nat.le_of_ble_eq_true rfl⟩) rfl rfl (Nat.le_of_ble_eq_true rfl) ⟨Nat.zero_le _, Nat.zero_le _⟩ d_Wo_makeChoice_85 ?_
          refine g_zif_ne E 100 d_Wo_makeChoice_88 (by decide) (by omega) (by omega) (fun h6 => ?_) (fun h6 => ?_)
          · refine g_iinc (lv' := [(5, .int (nI ((j + 1) + 1))), (8, .int (nI 1)), (7, .int (iI (sumZ (cS ix yo ce sv nw (j + 1)) nY))), (6, .int (nI (wS wo (j + 1) nw))), (1, .int (nI b)), (2, .int (nI mm)), (3, .int (iI cc)), (4, .int (nI (2 ^ nw - 1))), (0, .ref (ad 12))]) E d_Wo_makeChoice_100 3 rfl (nI_inc _) (by decide) rfl ?_
            refine g_goto E 15 d_Wo_makeChoice_103 (by decide) ?_
            refine g_lv [0, 4, 5, 6, 7, 8] rfl ?_
            exact ih_15 (j + 1, b, mm, cc, cS ix yo ce sv nw (j + 1)) (⟨by (try dsimp only); omega, by (try dsimp only); rw [chN, hI_15.2.1]; simp [chS, h2, h3, h4, h6]; try omega, by (try dsimp only); rw [spN, hI_15.2.1]; simp [h2, h3, h4, h6, hI_15.2.2.1]; try omega, by (try dsimp only); omega, by (try dsimp only); omega, by (try dsimp only); omega⟩) (by (try dsimp only); omega)
          · refine g_iload E d_Wo_makeChoice_91 3 rfl ?_
            refine g_istore_n (lv' := [(1, .int (nI (j + 1))), (8, .int (nI 1)), (7, .int (iI (sumZ (cS ix yo ce sv nw (j + 1)) nY))), (6, .int (nI (wS wo (j + 1) nw))), (5, .int (nI (j + 1))), (2, .int (nI mm)), (3, .int (iI cc)), (4, .int (nI (2 ^ nw - 1))), (0, .ref (ad 12))]) E d_Wo_makeChoice_93 rfl (by decide) rfl ?_
            refine g_iload E d_Wo_makeChoice_94 3 rfl ?_
            refine g_istore_n (lv' := [(2, .int (nI (wS wo (j + 1) nw))), (1, .int (nI (j + 1))), (8, .int (nI 1)), (7, .int (iI (sumZ (cS ix yo ce sv nw (j + 1)) nY))), (6, .int (nI (wS wo (j + 1) nw))), (5, .int (nI (j + 1))), (3, .int (iI cc)), (4, .int (nI (2 ^ nw - 1))), (0, .ref (ad 12))]) E d_Wo_makeChoice_96 rfl (by decide) rfl ?_
            refine g_iload E d_Wo_makeChoice_97 3 rfl ?_
            refine g_istore_n (lv' := [(3, .int (iI (sumZ (cS ix yo ce sv nw (j + 1)) nY))), (2, .int (nI (wS wo (j + 1) nw))), (1, .int (nI (j + 1))), (8, .int (nI 1)), (7, .int (iI (sumZ (cS ix yo ce sv nw (j + 1)) nY))), (6, .int (nI (wS wo (j + 1) nw))), (5, .int (nI (j + 1))), (4, .int (nI (2 ^ nw - 1))), (0, .ref (ad 12))]) E d_Wo_makeChoice_99 rfl (by decide) rfl ?_
            refine g_iinc (lv' := [(5, .int (nI ((j + 1) + 1))), (3, .int (iI (sumZ (cS ix yo ce sv nw (j + 1)) nY))), (2, .int (nI (wS wo (j + 1) nw))), (1, .int (nI (j + 1))), (8, .int (nI 1)), (7, .int (iI (sumZ (cS ix yo ce sv nw (j + 1)) nY))), (6, .int (nI (wS wo (j + 1) nw))), (4, .int (nI (2 ^ nw - 1))), (0, .ref (ad 12))]) E d_Wo_makeChoice_100 6 rfl (nI_inc _) (by decide) rfl ?_
            refine g_goto E 15 d_Wo_makeChoice_103 (by decide) ?_
            refine g_lv [0, 3, 2, 1, 7, 8] rfl ?_
            exact ih_15 (j + 1, j + 1, wS wo (j + 1) nw, sumZ (cS ix yo ce sv nw (j + 1)) nY, cS ix yo ce sv nw (j + 1)) (⟨by (try dsimp only); omega, by (try dsimp only); rw [chN, hI_15.2.1]; simp [chS, h2, h3, h4, h6]; try omega, by (try dsimp only); rw [spN, hI_15.2.1]; simp [h2, h3, h4, h6, hI_15.2.2.1]; try omega, by (try dsimp only); omega, by (try dsimp only); omega, by (try dsimp only); omega⟩) (by (try dsimp only); omega)
        · refine g_iload E d_Wo_makeChoice_66 0 rfl ?_
          refine g_iload_n E d_Wo_makeChoice_68 rfl 5 rfl ?_
          refine g_zcmp_ge E 76 d_Wo_makeChoice_69 (by decide) (by omega) (by omega) (by omega) (by omega) (fun h7 => ?_) (fun h7 => ?_)
          · refine g_iconst (v := nI 0) E d_Wo_makeChoice_76 (by decide) ?_
            refine g_istore (lv' := [(8, .int (nI 0)), (7, .int (iI (sumZ (cS ix yo ce sv nw (j + 1)) nY))), (6, .int (nI (wS wo (j + 1) nw))), (5, .int (nI (j + 1))), (1, .int (nI b)), (2, .int (nI mm)), (3, .int (iI cc)), (4, .int (nI (2 ^ nw - 1))), (0, .ref (ad 12))]) E d_Wo_makeChoice_77 (by decide) rfl ?_
            refine g_iload E d_Wo_makeChoice_79 0 rfl ?_
            refine g_nif_eq E 100 d_Wo_makeChoice_81 (by decide) (by decide) (fun _ => ?_) (fun h8 => absurd h8 (by decide))
            refine g_iinc (lv' := [(5, .int (nI ((j + 1) + 1))), (8, .int (nI 0)), (7, .int (iI (sumZ (cS ix yo ce sv nw (j + 1)) nY))), (6, .int (nI (wS wo (j + 1) nw))), (1, .int (nI b)), (2, .int (nI mm)), (3, .int (iI cc)), (4, .int (nI (2 ^ nw - 1))), (0, .ref (ad 12))]) E d_Wo_makeChoice_100 3 rfl (nI_inc _) (by decide) rfl ?_
            refine g_goto E 15 d_Wo_makeChoice_103 (by decide) ?_
            refine g_lv [0, 4, 5, 6, 7, 8] rfl ?_
            exact ih_15 (j + 1, b, mm, cc, cS ix yo ce sv nw (j + 1)) (⟨by (try dsimp only); omega, by (try dsimp only); rw [chN, hI_15.2.1]; simp [chS, h2, h3, h4, h7]; try omega, by (try dsimp only); rw [spN, hI_15.2.1]; simp [h2, h3, h4, h7, hI_15.2.2.1]; try omega, by (try dsimp only); omega, by (try dsimp only); omega, by (try dsimp only); omega⟩) (by (try dsimp only); omega)
          · refine g_iconst (v := nI 1) E d_Wo_makeChoice_72 (by decide) ?_
            refine g_goto E 77 d_Wo_makeChoice_73 (by decide) ?_
            refine g_istore (lv' := [(8, .int (nI 1)), (7, .int (iI (sumZ (cS ix yo ce sv nw (j + 1)) nY))), (6, .int (nI (wS wo (j + 1) nw))), (5, .int (nI (j + 1))), (1, .int (nI b)), (2, .int (nI mm)), (3, .int (iI cc)), (4, .int (nI (2 ^ nw - 1))), (0, .ref (ad 12))]) E d_Wo_makeChoice_77 (by decide) rfl ?_
            refine g_iload E d_Wo_makeChoice_79 0 rfl ?_
            refine g_nif_eq E 100 d_Wo_makeChoice_81 (by decide) (by decide) (fun h9 => absurd h9 (by decide)) (fun _ => ?_)
            have b3 := oB_bd (bu := bu) (n := nY) hY (bC (j + 1))
            have hsp : ∀ y, y < 12 → -100000000 ≤ cS ix yo ce sv nw (j + 1) y ∧ cS ix yo ce sv nw (j + 1) y ≤ 100000000 := fun y _ => ⟨by have := bC (j + 1) y; omega, (bC (j + 1) y).2⟩
            refine g_aload_n E d_Wo_makeChoice_84 rfl 8 rfl ?_
            refine gpVi (As := []) (rest := []) E gO_w 12 rfl rfl (C_Wo_spentOverBudgets l (by omega) hsp hbu) (cs_Wo_96 E rfl rfl ⟨Nat.le_of_ble_eq_true rfl, Nat.le_of_ble_eq_true rfl⟩) rfl rfl (Nat.le_of_ble_eq_true rfl) ⟨Nat.zero_le _, Nat.zero_le _⟩ d_Wo_makeChoice_85 ?_
            refine g_zif_ne E 100 d_Wo_makeChoice_88 (by decide) (by omega) (by omega) (fun h10 => ?_) (fun h10 => ?_)
            · refine g_iinc (lv' := [(5, .int (nI ((j + 1) + 1))), (8, .int (nI 1)), (7, .int (iI (sumZ (cS ix yo ce sv nw (j + 1)) nY))), (6, .int (nI (wS wo (j + 1) nw))), (1, .int (nI b)), (2, .int (nI mm)), (3, .int (iI cc)), (4, .int (nI (2 ^ nw - 1))), (0, .ref (ad 12))]) E d_Wo_makeChoice_100 3 rfl (nI_inc _) (by decide) rfl ?_
              refine g_goto E 15 d_Wo_makeChoice_103 (by decide) ?_
              refine g_lv [0, 4, 5, 6, 7, 8] rfl ?_
              exact ih_15 (j + 1, b, mm, cc, cS ix yo ce sv nw (j + 1)) (⟨by (try dsimp only); omega, by (try dsimp only); rw [chN, hI_15.2.1]; simp [chS, h2, h3, h4, h7, h10]; try omega, by (try dsimp only); rw [spN, hI_15.2.1]; simp [h2, h3, h4, h7, h10, hI_15.2.2.1]; try omega, by (try dsimp only); omega, by (try dsimp only); omega, by (try dsimp only); omega⟩) (by (try dsimp only); omega)
            · refine g_iload E d_Wo_makeChoice_91 3 rfl ?_
              refine g_istore_n (lv' := [(1, .int (nI (j + 1))), (8, .int (nI 1)), (7, .int (iI (sumZ (cS ix yo ce sv nw (j + 1)) nY))), (6, .int (nI (wS wo (j + 1) nw))), (5, .int (nI (j + 1))), (2, .int (nI mm)), (3, .int (iI cc)), (4, .int (nI (2 ^ nw - 1))), (0, .ref (ad 12))]) E d_Wo_makeChoice_93 rfl (by decide) rfl ?_
              refine g_iload E d_Wo_makeChoice_94 3 rfl ?_
              refine g_istore_n (lv' := [(2, .int (nI (wS wo (j + 1) nw))), (1, .int (nI (j + 1))), (8, .int (nI 1)), (7, .int (iI (sumZ (cS ix yo ce sv nw (j + 1)) nY))), (6, .int (nI (wS wo (j + 1) nw))), (5, .int (nI (j + 1))), (3, .int (iI cc)), (4, .int (nI (2 ^ nw - 1))), (0, .ref (ad 12))]) E d_Wo_makeChoice_96 rfl (by decide) rfl ?_
              refine g_iload E d_Wo_makeChoice_97 3 rfl ?_
              refine g_istore_n (lv' := [(3, .int (iI (sumZ (cS ix yo ce sv nw (j + 1)) nY))), (2, .int (nI (wS wo (j + 1) nw))), (1, .int (nI (j + 1))), (8, .int (nI 1)), (7, .int (iI (sumZ (cS ix yo ce sv nw (j + 1)) nY))), (6, .int (nI (wS wo (j + 1) nw))), (5, .int (nI (j + 1))), (4, .int (nI (2 ^ nw - 1))), (0, .ref (ad 12))]) E d_Wo_makeChoice_99 rfl (by decide) rfl ?_
              refine g_iinc (lv' := [(5, .int (nI ((j + 1) + 1))), (3, .int (iI (sumZ (cS ix yo ce sv nw (j + 1)) nY))), (2, .int (nI (wS wo (j + 1) nw))), (1, .int (nI (j + 1))), (8, .int (nI 1)), (7, .int (iI (sumZ (cS ix yo ce sv nw (j + 1)) nY))), (6, .int (nI (wS wo (j + 1) nw))), (4, .int (nI (2 ^ nw - 1))), (0, .ref (ad 12))]) E d_Wo_makeChoice_100 6 rfl (nI_inc _) (by decide) rfl ?_
              refine g_goto E 15 d_Wo_makeChoice_103 (by decide) ?_
              refine g_lv [0, 3, 2, 1, 7, 8] rfl ?_
              exact ih_15 (j + 1, j + 1, wS wo (j + 1) nw, sumZ (cS ix yo ce sv nw (j + 1)) nY, cS ix yo ce sv nw (j + 1)) (⟨by (try dsimp only); omega, by (try dsimp only); rw [chN, hI_15.2.1]; simp [chS, h2, h3, h4, h7, h10]; try omega, by (try dsimp only); rw [spN, hI_15.2.1]; simp [h2, h3, h4, h7, h10, hI_15.2.2.1]; try omega, by (try dsimp only); omega, by (try dsimp only); omega, by (try dsimp only); omega⟩) (by (try dsimp only); omega)
      · refine g_goto E 100 d_Wo_makeChoice_45 (by decide) ?_
        refine g_iinc (lv' := [(5, .int (nI ((j + 1) + 1))), (6, .int (nI (wS wo (j + 1) nw))), (1, .int (nI b)), (2, .int (nI mm)), (3, .int (iI cc)), (4, .int (nI (2 ^ nw - 1))), (0, .ref (ad 12))]) E d_Wo_makeChoice_100 1 rfl (nI_inc _) (by decide) rfl ?_
        refine g_goto E 15 d_Wo_makeChoice_103 (by decide) ?_
        refine g_lv [0, 2, 3, 4, 5, 6] rfl ?_
        exact ih_15 (j + 1, b, mm, cc, f) (⟨by (try dsimp only); omega, by (try dsimp only); rw [chN, hI_15.2.1]; simp [chS, h2, h3]; try omega, by (try dsimp only); rw [spN, hI_15.2.1]; simp [h2, h3, hI_15.2.2.1]; try omega, by (try dsimp only); omega, by (try dsimp only); omega, by (try dsimp only); omega⟩) (by (try dsimp only); omega)
