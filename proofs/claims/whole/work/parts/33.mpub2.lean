theorem inBL_Z (x z : Int32) {a : Nat} (ha : a < 2 ^ 31) : inBL x.toInt64 (lN a) z.toInt64 = inB x (nI a) z := by
  unfold inBL inB
  rw [Bool.eq_iff_iff]
  simp only [Bool.and_eq_true, Bool.not_eq_true', decide_eq_false_iff_not, Int64.lt_iff_toInt_lt, Int32.lt_iff_toInt_lt, Int32.toInt_toInt64, pf_lI (show a < 2 ^ 63 by omega), nI_toInt ha]
theorem nI_no {j : Nat} (h : j < 2 ^ 31) : nI j ≠ oN none := by
  intro z
  have := congrArg Int32.toInt z
  rw [nI_toInt h] at this
  have h2 : (oN none).toInt = -1 := by decide
  omega
theorem nd1 {nw : Nat} {a q : Int32} (hnw : nw ≤ 10) (h1 : inR a (nI nw) = true) (h2 : q = oN none) : ¬ ((inR a (nI nw) && (decide (q = oN none) || inR q (nI nw)) && !decide (a = q)) = false) := by
  obtain ⟨j, hj, rfl⟩ := (inR_iff (by omega)).mp h1
  subst h2
  rw [h1]
  simp [nI_no (show j < 2 ^ 31 by omega)]
theorem nd2 {nw : Nat} {a q : Int32} (h3 : twoW nw a q = true) : ¬ ((inR a (nI nw) && (decide (q = oN none) || inR q (nI nw)) && !decide (a = q)) = false) := by
  unfold twoW at h3
  simp only [Bool.and_eq_true] at h3
  rw [h3.1.1, h3.1.2, h3.2]
  simp

set_option maxHeartbeats 4000000 in
set_option maxRecDepth 100000 in
theorem C_Mo_choose (l : Launch) {V : gV} {am : Nat → Nat} {th nY : Nat} {ix bu : Nat → Nat} {np : Nat} {st sr go ca : Nat → Nat} {nw : Nat} {yo ce wo : Nat → Nat} {po ne : Nat → Option Nat} {sv : Nat → Nat} {cl : Nat → Bool} {mk bg dp : Nat} {sh nx : Nat → Nat} {spn : Int} (hnw : nw ≤ 10) (hyo : ∀ w, yo w < 12) (hix : ∀ y, ix y ≤ 2000) (hce : ∀ w, ce w ≤ 1000000) (hsv : ∀ j, sv j ≤ 1000000) (hY : nY ≤ 12) (hbu : ∀ y, bu y ≤ 1000000000) (hwo : ∀ w, wo w ≤ 1000000) (hne : ∀ w q, ne w = some q → q < 10) : mWi l y_Mo_choose (w_Mo_choose :: gt) rm_Mo_choose V (wM V am th nY ix bu np st sr go ca nw yo ce wo po ne sv cl mk bg dp sh nx spn) [.ref (am 0)] (nI ((chN (fun S => wS wo S nw) (fun S => allN (agM cl ne yo S) nw) (fun S => sumZ (cS ix yo ce (fun a b => sv (10 * a + b)) nw S) nY) (fun S => oB bu (cS ix yo ce (fun a b => sv (10 * a + b)) nw S) nY) (2 ^ nw - 1)).2.1)) (wM V am 0 nY ix bu np st sr go ca nw yo ce wo po ne sv cl ((chN (fun S => wS wo S nw) (fun S => allN (agM cl ne yo S) nw) (fun S => sumZ (cS ix yo ce (fun a b => sv (10 * a + b)) nw S) nY) (fun S => oB bu (cS ix yo ce (fun a b => sv (10 * a + b)) nw S) nY) (2 ^ nw - 1)).1) bg dp sh nx (spM (fun S => wS wo S nw) (fun S => allN (agM cl ne yo S) nw) (fun S => sumZ (cS ix yo ce (fun a b => sv (10 * a + b)) nw S) nY) (fun S => oB bu (cS ix yo ce (fun a b => sv (10 * a + b)) nw S) nY) spn (2 ^ nw - 1))) 0 0 := by
  intro sz
  refine gMet (V := V) (As := [.ref (am 0)]) (cc := c_Mo_choose) (maxL := 8) (ret := (some .int)) (by decide) rfl (Nat.le_of_ble_eq_true rfl) (fun a U h => ⟨h.1, h.2.2.2.1⟩) ?_
  intro p e s m below meth c E hr hlk hnm hv
  refine g_toW (sz := sz) (w := wM V am th nY ix bu np st sr go ca nw yo ce wo po ne sv cl mk bg dp sh nx spn) hv.2.2.1 hv.2.2.2.2 ?_
  have hA0 : ∀ q : Nat, s.heap.size ≤ q → va_A (wM V am th nY ix bu np st sr go ca nw yo ce wo po ne sv cl mk bg dp sh nx spn) sz q := fun q h => Or.inr (by rw [← hv.2.1]; exact h)
  have hp : 2 ^ nw ≤ 2 ^ 10 := Nat.pow_le_pow_right (by decide) hnw
  have hp1 : 1 ≤ 2 ^ nw := Nat.one_le_two_pow
  have bC : ∀ S y, 0 ≤ cS ix yo ce (fun a b => sv (10 * a + b)) nw S y ∧ cS ix yo ce (fun a b => sv (10 * a + b)) nw S y ≤ 100000000 := fun S y => cS_abs hnw hix hce (fun a b => hsv _)
  refine g_aload_n E d_Mo_choose_0 rfl 0 rfl ?_
  refine g_iconst (v := nI 0) E d_Mo_choose_1 (by decide) ?_
  refine pf_Mo_61 (ws' := wM V am 0 nY ix bu np st sr go ca nw yo ce wo po ne sv cl mk bg dp sh nx spn) E 0 rfl rfl rfl (Nat.le_of_ble_eq_true rfl) rfl d_Mo_choose_2 ?_
  refine g_iconst (v := nI 0) E d_Mo_choose_5 (by decide) ?_
  refine g_istore_n (lv' := [(1, .int (nI 0)), (0, .ref (am 0))]) E d_Mo_choose_6 rfl (by decide) rfl ?_
  refine g_iconst (v := nI 0) E d_Mo_choose_7 (by decide) ?_
  refine g_istore_n (lv' := [(2, .int (nI 0)), (1, .int (nI 0)), (0, .ref (am 0))]) E d_Mo_choose_8 rfl (by decide) rfl ?_
  refine g_lconst (v := lN 0) E d_Mo_choose_9 (by decide) ?_
  refine g_topl (lN_lI 0) ?_
  refine g_lstore_n (lv' := [(3, .long (lI ((0 : Nat) : Int))), (2, .int (nI 0)), (1, .int (nI 0)), (0, .ref (am 0))]) E d_Mo_choose_10 rfl (by decide) rfl ?_
  refine g_iconst (v := nI 1) E d_Mo_choose_11 (by decide) ?_
  refine g_istore (lv' := [(5, .int (nI 1)), (3, .long (lI ((0 : Nat) : Int))), (2, .int (nI 0)), (1, .int (nI 0)), (0, .ref (am 0))]) E d_Mo_choose_12 (by decide) rfl ?_
  refine g_lv [0, 3, 2, 1, 4] rfl ?_
  refine gloop (α := Nat × Nat × Nat × Int × Int) (fun a_ => gW V _ _ (wM V am 0 nY ix bu np st sr go ca nw yo ce wo po ne sv cl mk bg dp sh nx a_.2.2.2.2)) (fun a_ => [(5, .int (nI (a_.1 + 1))), (1, .int (nI a_.2.1)), (2, .int (nI a_.2.2.1)), (3, .long (lI a_.2.2.2.1)), (0, .ref (am 0))]) (fun a_ => a_.1 + 1 ≤ 2 ^ nw ∧ chN (fun S => wS wo S nw) (fun S => allN (agM cl ne yo S) nw) (fun S => sumZ (cS ix yo ce (fun a b => sv (10 * a + b)) nw S) nY) (fun S => oB bu (cS ix yo ce (fun a b => sv (10 * a + b)) nw S) nY) a_.1 = (a_.2.1, a_.2.2.1, a_.2.2.2.1) ∧ a_.2.2.2.2 = spM (fun S => wS wo S nw) (fun S => allN (agM cl ne yo S) nw) (fun S => sumZ (cS ix yo ce (fun a b => sv (10 * a + b)) nw S) nY) (fun S => oB bu (cS ix yo ce (fun a b => sv (10 * a + b)) nw S) nY) spn a_.1 ∧ a_.2.2.1 ≤ 10000000 ∧ 0 ≤ a_.2.2.2.1 ∧ a_.2.2.2.1 ≤ 1200000000) (fun a_ => 2 ^ nw - a_.1) (0, 0, 0, ((0 : Nat) : Int), spn) (⟨hp1, rfl, rfl, by simp, by simp, by simp⟩) ?_
  rintro ⟨j, bs, mm, cc, f⟩ hI_14 ih_14
  try dsimp only at hI_14 ih_14 ⊢
  refine g_iload E d_Mo_choose_14 0 rfl ?_
  refine g_iconst (v := nI 1) E d_Mo_choose_16 (by decide) ?_
  refine g_aload_n E d_Mo_choose_17 rfl 4 rfl ?_
  refine gf_Mo_75 E gO_w 0 rfl rfl d_Mo_choose_18 ?_
  refine g_ishl E d_Mo_choose_21 ?_
  refine g_topi (nI_pow (by omega)) ?_
  refine g_ncmp_ge E 130 d_Mo_choose_22 (by decide) (by omega) (by omega) (fun h1 => ?_) (fun h1 => ?_)
  · refine g_aload_n E d_Mo_choose_130 rfl 4 rfl ?_
    refine g_iload_n E d_Mo_choose_131 rfl 1 rfl ?_
    refine pf_Mo_106 (ws' := wM V am 0 nY ix bu np st sr go ca nw yo ce wo po ne sv cl bs bg dp sh nx f) E 0 rfl rfl rfl (Nat.le_of_ble_eq_true rfl) rfl d_Mo_choose_132 ?_
    refine g_iload_n E d_Mo_choose_135 rfl 2 rfl ?_
    refine g_ws (ws' := wM V am 0 nY ix bu np st sr go ca nw yo ce wo po ne sv cl ((chN (fun S => wS wo S nw) (fun S => allN (agM cl ne yo S) nw) (fun S => sumZ (cS ix yo ce (fun a b => sv (10 * a + b)) nw S) nY) (fun S => oB bu (cS ix yo ce (fun a b => sv (10 * a + b)) nw S) nY) (2 ^ nw - 1)).1) bg dp sh nx (spM (fun S => wS wo S nw) (fun S => allN (agM cl ne yo S) nw) (fun S => sumZ (cS ix yo ce (fun a b => sv (10 * a + b)) nw S) nY) (fun S => oB bu (cS ix yo ce (fun a b => sv (10 * a + b)) nw S) nY) spn (2 ^ nw - 1))) (by rw [show 2 ^ nw - 1 = j by omega, hI_14.2.1, hI_14.2.2.1]) ?_
    exact g_iret E hr hlk d_Mo_choose_136 (gq_wi (w1 := fun _ => wM V am 0 nY ix bu np st sr go ca nw yo ce wo po ne sv cl ((chN (fun S => wS wo S nw) (fun S => allN (agM cl ne yo S) nw) (fun S => sumZ (cS ix yo ce (fun a b => sv (10 * a + b)) nw S) nY) (fun S => oB bu (cS ix yo ce (fun a b => sv (10 * a + b)) nw S) nY) (2 ^ nw - 1)).1) bg dp sh nx (spM (fun S => wS wo S nw) (fun S => allN (agM cl ne yo S) nw) (fun S => sumZ (cS ix yo ce (fun a b => sv (10 * a + b)) nw S) nY) (fun S => oB bu (cS ix yo ce (fun a b => sv (10 * a + b)) nw S) nY) spn (2 ^ nw - 1))) () (by rw [show 2 ^ nw - 1 = j by omega, hI_14.2.1]))
  · refine g_iconst (v := nI 0) E d_Mo_choose_25 (by decide) ?_
    refine g_istore (lv' := [(6, .int (nI 0)), (5, .int (nI (j + 1))), (1, .int (nI bs)), (2, .int (nI mm)), (3, .long (lI cc)), (0, .ref (am 0))]) E d_Mo_choose_26 (by decide) rfl ?_
    refine g_iconst (v := nI 0) E d_Mo_choose_28 (by decide) ?_
    refine g_istore (lv' := [(7, .int (nI 0)), (6, .int (nI 0)), (5, .int (nI (j + 1))), (1, .int (nI bs)), (2, .int (nI mm)), (3, .long (lI cc)), (0, .ref (am 0))]) E d_Mo_choose_29 (by decide) rfl ?_
    refine g_lv [0, 1, 2, 3, 4, 5, 6] rfl ?_
    refine gloop (α := Nat × Nat) (fun a_ => gW V _ _ (wM V am 0 nY ix bu np st sr go ca nw yo ce wo po ne sv cl mk bg dp sh nx f)) (fun a_ => [(7, .int (nI a_.1)), (6, .int (nI a_.2)), (5, .int (nI (j + 1))), (1, .int (nI bs)), (2, .int (nI mm)), (3, .long (lI cc)), (0, .ref (am 0))]) (fun a_ => a_.1 ≤ nw ∧ a_.2 = wS wo (j + 1) a_.1) (fun a_ => nw - a_.1) (0, 0) (⟨Nat.zero_le _, rfl⟩) ?_
    rintro ⟨t, acc⟩ hI_31 ih_31
    try dsimp only at hI_31 ih_31 ⊢
    refine g_iload E d_Mo_choose_31 0 rfl ?_
    refine g_aload_n E d_Mo_choose_33 rfl 6 rfl ?_
    refine gf_Mo_75 E gO_w 0 rfl rfl d_Mo_choose_34 ?_
    refine g_ncmp_ge E 72 d_Mo_choose_37 (by decide) (by omega) (by omega) (fun h2 => ?_) (fun h2 => ?_)
    · have hW : acc = wS wo (j + 1) nw := by rw [hI_31.2, show t = nw by omega]
      have b1 := wS_le (wo := wo) (S := j + 1) (n := nw) hwo
      rw [← hW] at b1
      refine g_iload E d_Mo_choose_72 1 rfl ?_
      refine g_iload_n E d_Mo_choose_74 rfl 4 rfl ?_
      refine g_ncmp_lt E 124 d_Mo_choose_75 (by decide) (by omega) (by omega) (fun h3 => ?_) (fun h3 => ?_)
      · refine g_iinc (lv' := [(5, .int (nI ((j + 1) + 1))), (7, .int (nI t)), (6, .int (nI acc)), (1, .int (nI bs)), (2, .int (nI mm)), (3, .long (lI cc)), (0, .ref (am 0))]) E d_Mo_choose_124 2 rfl (nI_inc _) (by decide) rfl ?_
        refine g_goto E 14 d_Mo_choose_127 (by decide) ?_
        refine g_lv [0, 3, 4, 5, 6] rfl ?_
        exact ih_14 (j + 1, bs, mm, cc, f) (⟨by (try dsimp only); omega, by (try dsimp only); rw [chN, hI_14.2.1]; simp [chS, h2, h3, hW]; try omega, by (try dsimp only); rw [spM, hI_14.2.1]; simp [h2, h3, hW, hI_14.2.2.1]; try omega, by (try dsimp only); omega, by (try dsimp only); omega, by (try dsimp only); omega⟩) (by (try dsimp only); omega)
      · refine g_aload_n E d_Mo_choose_78 rfl 6 rfl ?_
        refine g_iload E d_Mo_choose_79 2 rfl ?_
        refine gpVi (As := [.int (nI (j + 1))]) (rest := []) E gO_w 0 rfl rfl (C_Mo_goesTogether l (j + 1) (by omega) hnw hne hyo) (cs_Mo_137 E rfl rfl ⟨Nat.le_of_ble_eq_true rfl, Nat.le_of_ble_eq_true rfl⟩) rfl rfl (Nat.le_of_ble_eq_true rfl) ⟨Nat.zero_le _, Nat.zero_le _⟩ d_Mo_choose_81 ?_
        refine g_bif_eq E 124 d_Mo_choose_84 (by decide) (fun h4 => ?_) (fun h4 => ?_)
        · refine g_iinc (lv' := [(5, .int (nI ((j + 1) + 1))), (7, .int (nI t)), (6, .int (nI acc)), (1, .int (nI bs)), (2, .int (nI mm)), (3, .long (lI cc)), (0, .ref (am 0))]) E d_Mo_choose_124 2 rfl (nI_inc _) (by decide) rfl ?_
          refine g_goto E 14 d_Mo_choose_127 (by decide) ?_
          refine g_lv [0, 3, 4, 5, 6] rfl ?_
          exact ih_14 (j + 1, bs, mm, cc, f) (⟨by (try dsimp only); omega, by (try dsimp only); rw [chN, hI_14.2.1]; simp [chS, h2, h3, h4, hW]; try omega, by (try dsimp only); rw [spM, hI_14.2.1]; simp [h2, h3, h4, hW, hI_14.2.2.1]; try omega, by (try dsimp only); omega, by (try dsimp only); omega, by (try dsimp only); omega⟩) (by (try dsimp only); omega)
        · have b2 := co_bd (n := nY) hY (bC (j + 1))
          have b3 := oB_bd (bu := bu) (n := nY) hY (bC (j + 1))
          refine g_aload_n E d_Mo_choose_87 rfl 6 rfl ?_
          refine g_iload E d_Mo_choose_88 2 rfl ?_
          refine gwVl (As := [.int (nI (j + 1))]) (rest := []) (w' := wM V am 0 nY ix bu np st sr go ca nw yo ce wo po ne sv cl mk bg dp sh nx (sumZ (cS ix yo ce (fun a b => sv (10 * a + b)) nw (j + 1)) nY)) (mc := 0) (ms := 0) E hA0 0 rfl rfl (C_Mo_lackOf l (j + 1) (by omega) hY hbu hnw hyo hix hce hsv) (cs_Mo_140 E rfl rfl ⟨Nat.le_of_ble_eq_true rfl, Nat.le_of_ble_eq_true rfl⟩) rfl rfl (Nat.le_of_ble_eq_true rfl) ⟨Nat.zero_le _, Nat.zero_le _⟩ d_Mo_choose_90 ?_
          refine g_lconst (v := lN 0) E d_Mo_choose_93 (by decide) ?_
          refine g_lcmp E d_Mo_choose_94 ?_
          refine g_if_ne E 124 d_Mo_choose_95 (by decide) (fun h5 => ?_) (fun h5 => ?_)
          · rw [lg_eq, show lN 0 = lI 0 from lN_lI 0, lI_eq (by omega) (by omega) (by decide) (by decide)] at h5
            refine g_iinc (lv' := [(5, .int (nI ((j + 1) + 1))), (7, .int (nI t)), (6, .int (nI acc)), (1, .int (nI bs)), (2, .int (nI mm)), (3, .long (lI cc)), (0, .ref (am 0))]) E d_Mo_choose_124 2 rfl (nI_inc _) (by decide) rfl ?_
            refine g_goto E 14 d_Mo_choose_127 (by decide) ?_
            refine g_lv [0, 3, 4, 5, 6] rfl ?_
            exact ih_14 (j + 1, bs, mm, cc, sumZ (cS ix yo ce (fun a b => sv (10 * a + b)) nw (j + 1)) nY) (⟨by (try dsimp only); omega, by (try dsimp only); rw [chN, hI_14.2.1]; simp [chS, h2, h3, h4, h5, hW]; try omega, by (try dsimp only); rw [spM, hI_14.2.1]; simp [h2, h3, h4, h5, hW, hI_14.2.2.1]; try omega, by (try dsimp only); omega, by (try dsimp only); omega, by (try dsimp only); omega⟩) (by (try dsimp only); omega)
          · rw [lg_eq, show lN 0 = lI 0 from lN_lI 0, lI_eq (by omega) (by omega) (by decide) (by decide)] at h5
            refine g_iload E d_Mo_choose_98 1 rfl ?_
            refine g_iload_n E d_Mo_choose_100 rfl 4 rfl ?_
            refine g_ncmp_gt E 113 d_Mo_choose_101 (by decide) (by omega) (by omega) (fun h6 => ?_) (fun h6 => ?_)
            · refine g_iload E d_Mo_choose_113 2 rfl ?_
              refine g_istore_n (lv' := [(1, .int (nI (j + 1))), (7, .int (nI t)), (6, .int (nI acc)), (5, .int (nI (j + 1))), (2, .int (nI mm)), (3, .long (lI cc)), (0, .ref (am 0))]) E d_Mo_choose_115 rfl (by decide) rfl ?_
              refine g_iload E d_Mo_choose_116 2 rfl ?_
              refine g_istore_n (lv' := [(2, .int (nI acc)), (1, .int (nI (j + 1))), (7, .int (nI t)), (6, .int (nI acc)), (5, .int (nI (j + 1))), (3, .long (lI cc)), (0, .ref (am 0))]) E d_Mo_choose_118 rfl (by decide) rfl ?_
              refine g_aload_n E d_Mo_choose_119 rfl 6 rfl ?_
              refine gf_Mo_130 E gO_w 0 rfl rfl d_Mo_choose_120 ?_
              refine g_lstore_n (lv' := [(3, .long (lI (sumZ (cS ix yo ce (fun a b => sv (10 * a + b)) nw (j + 1)) nY))), (2, .int (nI acc)), (1, .int (nI (j + 1))), (7, .int (nI t)), (6, .int (nI acc)), (5, .int (nI (j + 1))), (0, .ref (am 0))]) E d_Mo_choose_123 rfl (by decide) rfl ?_
              refine g_iinc (lv' := [(5, .int (nI ((j + 1) + 1))), (3, .long (lI (sumZ (cS ix yo ce (fun a b => sv (10 * a + b)) nw (j + 1)) nY))), (2, .int (nI acc)), (1, .int (nI (j + 1))), (7, .int (nI t)), (6, .int (nI acc)), (0, .ref (am 0))]) E d_Mo_choose_124 5 rfl (nI_inc _) (by decide) rfl ?_
              refine g_goto E 14 d_Mo_choose_127 (by decide) ?_
              refine g_lv [0, 3, 2, 1, 6] rfl ?_
              exact ih_14 (j + 1, j + 1, acc, sumZ (cS ix yo ce (fun a b => sv (10 * a + b)) nw (j + 1)) nY, sumZ (cS ix yo ce (fun a b => sv (10 * a + b)) nw (j + 1)) nY) (⟨by (try dsimp only); omega, by (try dsimp only); rw [chN, hI_14.2.1]; simp [chS, h2, h3, h4, h5, h6, hW]; try omega, by (try dsimp only); rw [spM, hI_14.2.1]; simp [h2, h3, h4, h5, h6, hW, hI_14.2.2.1]; try omega, by (try dsimp only); omega, by (try dsimp only); omega, by (try dsimp only); omega⟩) (by (try dsimp only); omega)
            · refine g_aload_n E d_Mo_choose_104 rfl 6 rfl ?_
              refine gf_Mo_130 E gO_w 0 rfl rfl d_Mo_choose_105 ?_
              refine g_lload_n E d_Mo_choose_108 rfl 5 rfl ?_
              refine g_lcmp E d_Mo_choose_109 ?_
              refine g_if_ge E 124 d_Mo_choose_110 (by decide) (fun h7 => ?_) (fun h7 => ?_)
              · rw [← Int32.not_lt, lg_lt, lI_lt (by omega) (by omega) (by omega) (by omega)] at h7
                refine g_iinc (lv' := [(5, .int (nI ((j + 1) + 1))), (7, .int (nI t)), (6, .int (nI acc)), (1, .int (nI bs)), (2, .int (nI mm)), (3, .long (lI cc)), (0, .ref (am 0))]) E d_Mo_choose_124 2 rfl (nI_inc _) (by decide) rfl ?_
                refine g_goto E 14 d_Mo_choose_127 (by decide) ?_
                refine g_lv [0, 3, 4, 5, 6] rfl ?_
                exact ih_14 (j + 1, bs, mm, cc, sumZ (cS ix yo ce (fun a b => sv (10 * a + b)) nw (j + 1)) nY) (⟨by (try dsimp only); omega, by (try dsimp only); rw [chN, hI_14.2.1]; simp [chS, h2, h3, h4, h5, h6, h7, hW]; try omega, by (try dsimp only); rw [spM, hI_14.2.1]; simp [h2, h3, h4, h5, h6, h7, hW, hI_14.2.2.1]; try omega, by (try dsimp only); omega, by (try dsimp only); omega, by (try dsimp only); omega⟩) (by (try dsimp only); omega)
              · rw [← Int32.not_lt, lg_lt, lI_lt (by omega) (by omega) (by omega) (by omega), Classical.not_not] at h7
                refine g_iload E d_Mo_choose_113 2 rfl ?_
                refine g_istore_n (lv' := [(1, .int (nI (j + 1))), (7, .int (nI t)), (6, .int (nI acc)), (5, .int (nI (j + 1))), (2, .int (nI mm)), (3, .long (lI cc)), (0, .ref (am 0))]) E d_Mo_choose_115 rfl (by decide) rfl ?_
                refine g_iload E d_Mo_choose_116 2 rfl ?_
                refine g_istore_n (lv' := [(2, .int (nI acc)), (1, .int (nI (j + 1))), (7, .int (nI t)), (6, .int (nI acc)), (5, .int (nI (j + 1))), (3, .long (lI cc)), (0, .ref (am 0))]) E d_Mo_choose_118 rfl (by decide) rfl ?_
                refine g_aload_n E d_Mo_choose_119 rfl 6 rfl ?_
                refine gf_Mo_130 E gO_w 0 rfl rfl d_Mo_choose_120 ?_
                refine g_lstore_n (lv' := [(3, .long (lI (sumZ (cS ix yo ce (fun a b => sv (10 * a + b)) nw (j + 1)) nY))), (2, .int (nI acc)), (1, .int (nI (j + 1))), (7, .int (nI t)), (6, .int (nI acc)), (5, .int (nI (j + 1))), (0, .ref (am 0))]) E d_Mo_choose_123 rfl (by decide) rfl ?_
                refine g_iinc (lv' := [(5, .int (nI ((j + 1) + 1))), (3, .long (lI (sumZ (cS ix yo ce (fun a b => sv (10 * a + b)) nw (j + 1)) nY))), (2, .int (nI acc)), (1, .int (nI (j + 1))), (7, .int (nI t)), (6, .int (nI acc)), (0, .ref (am 0))]) E d_Mo_choose_124 5 rfl (nI_inc _) (by decide) rfl ?_
                refine g_goto E 14 d_Mo_choose_127 (by decide) ?_
                refine g_lv [0, 3, 2, 1, 6] rfl ?_
                exact ih_14 (j + 1, j + 1, acc, sumZ (cS ix yo ce (fun a b => sv (10 * a + b)) nw (j + 1)) nY, sumZ (cS ix yo ce (fun a b => sv (10 * a + b)) nw (j + 1)) nY) (⟨by (try dsimp only); omega, by (try dsimp only); rw [chN, hI_14.2.1]; simp [chS, h2, h3, h4, h5, h6, h7, hW]; try omega, by (try dsimp only); rw [spM, hI_14.2.1]; simp [h2, h3, h4, h5, h6, h7, hW, hI_14.2.2.1]; try omega, by (try dsimp only); omega, by (try dsimp only); omega, by (try dsimp only); omega⟩) (by (try dsimp only); omega)
    · refine g_iload E d_Mo_choose_40 1 rfl ?_
      refine g_iload E d_Mo_choose_42 2 rfl ?_
      refine g_iload E d_Mo_choose_44 0 rfl ?_
      refine gpSi (As := [.int (nI (j + 1)), .int (nI t)]) (rest := [.int (nI acc)]) E gO_w (C_Mo_has l (j + 1) t (by omega) (by omega)) (cs_Mo_127 E rfl rfl ⟨Nat.le_of_ble_eq_true rfl, Nat.le_of_ble_eq_true rfl⟩) rfl rfl (Nat.le_of_ble_eq_true rfl) ⟨Nat.zero_le _, Nat.zero_le _⟩ d_Mo_choose_46 ?_
      refine g_bif_eq E 62 d_Mo_choose_49 (by decide) (fun h8 => ?_) (fun h8 => ?_)
      · refine g_iconst (v := nI 0) E d_Mo_choose_62 (by decide) ?_
        refine g_iadd E d_Mo_choose_63 ?_
        refine g_topi (nI_add _ _) ?_
        refine g_istore (lv' := [(6, .int (nI (acc + 0))), (7, .int (nI t)), (5, .int (nI (j + 1))), (1, .int (nI bs)), (2, .int (nI mm)), (3, .long (lI cc)), (0, .ref (am 0))]) E d_Mo_choose_64 (by decide) rfl ?_
        refine g_iinc (lv' := [(7, .int (nI (t + 1))), (6, .int (nI (acc + 0))), (5, .int (nI (j + 1))), (1, .int (nI bs)), (2, .int (nI mm)), (3, .long (lI cc)), (0, .ref (am 0))]) E d_Mo_choose_66 1 rfl (nI_inc _) (by decide) rfl ?_
        refine g_goto E 31 d_Mo_choose_69 (by decide) ?_
        refine g_lv [0, 1, 2, 3, 4, 5, 6] rfl ?_
        exact ih_31 (t + 1, acc + 0) (⟨by (try dsimp only); omega, by (try dsimp only); rw [hI_31.2]; simp [wS, sumN, h8]⟩) (by (try dsimp only); omega)
      · refine g_aload_n E d_Mo_choose_52 rfl 6 rfl ?_
        refine gf_Mo_34 E gO_w 0 rfl rfl d_Mo_choose_53 ?_
        refine g_iload E d_Mo_choose_56 0 rfl ?_
        refine g_ldN E gO_w 9 rfl (by omega) (by decide) d_Mo_choose_58 ?_
        refine g_goto E 63 d_Mo_choose_59 (by decide) ?_
        refine g_iadd E d_Mo_choose_63 ?_
        refine g_topi (nI_add _ _) ?_
        refine g_istore (lv' := [(6, .int (nI (acc + (wo t)))), (7, .int (nI t)), (5, .int (nI (j + 1))), (1, .int (nI bs)), (2, .int (nI mm)), (3, .long (lI cc)), (0, .ref (am 0))]) E d_Mo_choose_64 (by decide) rfl ?_
        refine g_iinc (lv' := [(7, .int (nI (t + 1))), (6, .int (nI (acc + (wo t)))), (5, .int (nI (j + 1))), (1, .int (nI bs)), (2, .int (nI mm)), (3, .long (lI cc)), (0, .ref (am 0))]) E d_Mo_choose_66 1 rfl (nI_inc _) (by decide) rfl ?_
        refine g_goto E 31 d_Mo_choose_69 (by decide) ?_
        refine g_lv [0, 1, 2, 3, 4, 5, 6] rfl ?_
        exact ih_31 (t + 1, acc + (wo t)) (⟨by (try dsimp only); omega, by (try dsimp only); rw [hI_31.2]; simp [wS, sumN, h8]⟩) (by (try dsimp only); omega)

set_option maxHeartbeats 4000000 in
set_option maxRecDepth 100000 in
theorem C_Mo_chosen (l : Launch) {V : gV} {am : Nat → Nat} {th nY : Nat} {ix bu : Nat → Nat} {np : Nat} {st sr go ca : Nat → Nat} {nw : Nat} {yo ce wo : Nat → Nat} {po ne : Nat → Option Nat} {sv : Nat → Nat} {cl : Nat → Bool} {mk bg dp : Nat} {sh nx : Nat → Nat} {spn : Int} (a : Nat) (ha : a < nw) (hnw : nw ≤ 10) (hmk : mk < 1024) : mWi l y_Mo_chosen (w_Mo_chosen :: gt) rm_Mo_chosen V (wM V am th nY ix bu np st sr go ca nw yo ce wo po ne sv cl mk bg dp sh nx spn) [.ref (am 0), .int (nI a)] (bI (mk.testBit a)) (wM V am 0 nY ix bu np st sr go ca nw yo ce wo po ne sv cl mk bg dp sh nx spn) 0 0 := by
  intro sz
  refine gMet (V := V) (As := [.ref (am 0), .int (nI a)]) (cc := c_Mo_chosen) (maxL := 2) (ret := (some .boolean)) (by decide) rfl (Nat.le_of_ble_eq_true rfl) (fun a U h => ⟨h.1, h.2.2.2.1⟩) ?_
  intro p e s m below meth c E hr hlk hnm hv
  refine g_toW (sz := sz) (w := wM V am th nY ix bu np st sr go ca nw yo ce wo po ne sv cl mk bg dp sh nx spn) hv.2.2.1 hv.2.2.2.2 ?_
  have hA0 : ∀ q : Nat, s.heap.size ≤ q → va_A (wM V am th nY ix bu np st sr go ca nw yo ce wo po ne sv cl mk bg dp sh nx spn) sz q := fun q h => Or.inr (by rw [← hv.2.1]; exact h)
  refine g_aload_n E d_Mo_chosen_0 rfl 0 rfl ?_
  refine g_aload_n E d_Mo_chosen_1 rfl 0 rfl ?_
  refine g_iload_n E d_Mo_chosen_2 rfl 1 rfl ?_
  refine gpVi (As := [.int (nI a)]) (rest := [.ref (am 0)]) E gO_w 0 rfl rfl (C_Mo_isWork l (nI a) (by omega)) (cs_Mo_121 E rfl rfl ⟨Nat.le_of_ble_eq_true rfl, Nat.le_of_ble_eq_true rfl⟩) rfl rfl (Nat.le_of_ble_eq_true rfl) ⟨Nat.zero_le _, Nat.zero_le _⟩ d_Mo_chosen_3 ?_
  refine g_topi (show bI _ = nI 1 from by rw [inR_y (by omega) (by omega)]; rfl) ?_
  refine g_nif_eq E 13 d_Mo_chosen_6 (by decide) (by decide) (fun h1 => absurd h1 (by decide)) (fun _ => ?_)
  refine g_iconst (v := nI 0) E d_Mo_chosen_9 (by decide) ?_
  refine g_goto E 14 d_Mo_chosen_10 (by decide) ?_
  refine gwVi (As := [.int (nI 0)]) (rest := []) (w' := wM V am 0 nY ix bu np st sr go ca nw yo ce wo po ne sv cl mk bg dp sh nx spn) (mc := 0) (ms := 0) E hA0 0 rfl rfl (C_Mo_refuses_0 l) (cs_Mo_85 E rfl rfl ⟨Nat.le_of_ble_eq_true rfl, Nat.le_of_ble_eq_true rfl⟩) rfl rfl (Nat.le_of_ble_eq_true rfl) ⟨Nat.zero_le _, Nat.zero_le _⟩ d_Mo_chosen_14 ?_
  refine g_nif_ne E 35 d_Mo_chosen_17 (by decide) (by decide) (fun h2 => absurd h2 (by decide)) (fun _ => ?_)
  refine g_aload_n E d_Mo_chosen_20 rfl 0 rfl ?_
  refine gf_Mo_106 E gO_w 0 rfl rfl d_Mo_chosen_21 ?_
  refine g_iload_n E d_Mo_chosen_24 rfl 1 rfl ?_
  refine gpSi (As := [.int (nI mk), .int (nI a)]) (rest := []) E gO_w (C_Mo_has l mk a (by omega) (by omega)) (cs_Mo_127 E rfl rfl ⟨Nat.le_of_ble_eq_true rfl, Nat.le_of_ble_eq_true rfl⟩) rfl rfl (Nat.le_of_ble_eq_true rfl) ⟨Nat.zero_le _, Nat.zero_le _⟩ d_Mo_chosen_25 ?_
  refine g_bif_eq E 35 d_Mo_chosen_28 (by decide) (fun h3 => ?_) (fun h3 => ?_)
  · refine g_iconst (v := nI 0) E d_Mo_chosen_35 (by decide) ?_
    exact g_zret E hr hlk d_Mo_chosen_36 (Or.inl rfl) (gq_wi (w1 := fun _ => wM V am 0 nY ix bu np st sr go ca nw yo ce wo po ne sv cl mk bg dp sh nx spn) () (by simp [bI, nI_0, nI_c1, h3]))
  · refine g_iconst (v := nI 1) E d_Mo_chosen_31 (by decide) ?_
    refine g_goto E 36 d_Mo_chosen_32 (by decide) ?_
    exact g_zret E hr hlk d_Mo_chosen_36 (Or.inr rfl) (gq_wi (w1 := fun _ => wM V am 0 nY ix bu np st sr go ca nw yo ce wo po ne sv cl mk bg dp sh nx spn) () (by simp [bI, nI_0, nI_c1, h3]))

set_option maxHeartbeats 4000000 in
set_option maxRecDepth 100000 in
theorem C_Mo_costs (l : Launch) {V : gV} {am : Nat → Nat} {th nY : Nat} {ix bu : Nat → Nat} {np : Nat} {st sr go ca : Nat → Nat} {nw : Nat} {yo ce wo : Nat → Nat} {po ne : Nat → Option Nat} {sv : Nat → Nat} {cl : Nat → Bool} {mk bg dp : Nat} {sh nx : Nat → Nat} {spn : Int} (y : Nat) (hy : y < nY) (hY : nY ≤ 12) (hmk : mk < 1024) (hnw : nw ≤ 10) (hyo : ∀ w, yo w < 12) (hix : ∀ y, ix y ≤ 2000) (hce : ∀ w, ce w ≤ 1000000) (hsv : ∀ j, sv j ≤ 1000000) : mWi l y_Mo_costs (w_Mo_costs :: gt) rm_Mo_costs V (wM V am th nY ix bu np st sr go ca nw yo ce wo po ne sv cl mk bg dp sh nx spn) [.ref (am 0), .int (nI y)] (iI (cS ix yo ce (fun a b => sv (10 * a + b)) nw mk y)) (wM V am 0 nY ix bu np st sr go ca nw yo ce wo po ne sv cl mk bg dp sh nx spn) 0 0 := by
  intro sz
  refine gMet (V := V) (As := [.ref (am 0), .int (nI y)]) (cc := c_Mo_costs) (maxL := 2) (ret := (some .int)) (by decide) rfl (Nat.le_of_ble_eq_true rfl) (fun a U h => ⟨h.1, h.2.2.2.1⟩) ?_
  intro p e s m below meth c E hr hlk hnm hv
  refine g_toW (sz := sz) (w := wM V am th nY ix bu np st sr go ca nw yo ce wo po ne sv cl mk bg dp sh nx spn) hv.2.2.1 hv.2.2.2.2 ?_
  have hA0 : ∀ q : Nat, s.heap.size ≤ q → va_A (wM V am th nY ix bu np st sr go ca nw yo ce wo po ne sv cl mk bg dp sh nx spn) sz q := fun q h => Or.inr (by rw [← hv.2.1]; exact h)
  refine g_aload_n E d_Mo_costs_0 rfl 0 rfl ?_
  refine g_aload_n E d_Mo_costs_1 rfl 0 rfl ?_
  refine g_iload_n E d_Mo_costs_2 rfl 1 rfl ?_
  refine gpVi (As := [.int (nI y)]) (rest := [.ref (am 0)]) E gO_w 0 rfl rfl (C_Mo_isYear l (nI y) (by omega)) (cs_Mo_78 E rfl rfl ⟨Nat.le_of_ble_eq_true rfl, Nat.le_of_ble_eq_true rfl⟩) rfl rfl (Nat.le_of_ble_eq_true rfl) ⟨Nat.zero_le _, Nat.zero_le _⟩ d_Mo_costs_3 ?_
  refine g_topi (show bI _ = nI 1 from by rw [inR_y (by omega) (by omega)]; rfl) ?_
  refine g_nif_eq E 13 d_Mo_costs_6 (by decide) (by decide) (fun h1 => absurd h1 (by decide)) (fun _ => ?_)
  refine g_iconst (v := nI 0) E d_Mo_costs_9 (by decide) ?_
  refine g_goto E 14 d_Mo_costs_10 (by decide) ?_
  refine gwVi (As := [.int (nI 0)]) (rest := []) (w' := wM V am 0 nY ix bu np st sr go ca nw yo ce wo po ne sv cl mk bg dp sh nx spn) (mc := 0) (ms := 0) E hA0 0 rfl rfl (C_Mo_refuses_0 l) (cs_Mo_85 E rfl rfl ⟨Nat.le_of_ble_eq_true rfl, Nat.le_of_ble_eq_true rfl⟩) rfl rfl (Nat.le_of_ble_eq_true rfl) ⟨Nat.zero_le _, Nat.zero_le _⟩ d_Mo_costs_14 ?_
  refine g_nif_eq E 24 d_Mo_costs_17 (by decide) (by decide) (fun _ => ?_) (fun h2 => absurd h2 (by decide))
  refine g_aload_n E d_Mo_costs_24 rfl 0 rfl ?_
  refine g_aload_n E d_Mo_costs_25 rfl 0 rfl ?_
  refine gf_Mo_106 E gO_w 0 rfl rfl d_Mo_costs_26 ?_
  refine g_iload_n E d_Mo_costs_29 rfl 1 rfl ?_
  refine gpVl (As := [.int (nI mk), .int (nI y)]) (rest := []) E gO_w 0 rfl rfl (C_Mo_costOf l mk y (by omega) (by omega) hnw hyo hix hce hsv) (cs_Mo_134 E rfl rfl ⟨Nat.le_of_ble_eq_true rfl, Nat.le_of_ble_eq_true rfl⟩) rfl rfl (Nat.le_of_ble_eq_true rfl) ⟨Nat.zero_le _, Nat.zero_le _⟩ d_Mo_costs_30 ?_
  refine g_l2i E d_Mo_costs_33 ?_
  refine g_topi (lI_i _) ?_
  exact g_iret E hr hlk d_Mo_costs_34 (gq_wi (w1 := fun _ => wM V am 0 nY ix bu np st sr go ca nw yo ce wo po ne sv cl mk bg dp sh nx spn) () (rfl))

set_option maxHeartbeats 4000000 in
set_option maxRecDepth 100000 in
theorem C_Mo_lacks_y (l : Launch) {V : gV} {am : Nat → Nat} {th nY : Nat} {ix bu : Nat → Nat} {np : Nat} {st sr go ca : Nat → Nat} {nw : Nat} {yo ce wo : Nat → Nat} {po ne : Nat → Option Nat} {sv : Nat → Nat} {cl : Nat → Bool} {mk bg dp : Nat} {sh nx : Nat → Nat} {spn : Int} (x : Int32) (hag : allN (agM cl ne yo (xm x nw)) nw = true) (hnw : nw ≤ 10) (hyo : ∀ w, yo w < 12) (hix : ∀ y, ix y ≤ 2000) (hce : ∀ w, ce w ≤ 1000000) (hsv : ∀ j, sv j ≤ 1000000) (hY : nY ≤ 12) (hbu : ∀ y, bu y ≤ 1000000000) (hwo : ∀ w, wo w ≤ 1000000) (hne : ∀ w q, ne w = some q → q < 10) : mWi l y_Mo_lacks (w_Mo_lacks :: gt) rm_Mo_lacks V (wM V am th nY ix bu np st sr go ca nw yo ce wo po ne sv cl mk bg dp sh nx spn) [.ref (am 0), .int x] (iI (oB bu (cS ix yo ce (fun a b => sv (10 * a + b)) nw (xm x nw)) nY)) (wM V am 0 nY ix bu np st sr go ca nw yo ce wo po ne sv cl mk bg dp sh nx (sumZ (cS ix yo ce (fun a b => sv (10 * a + b)) nw (xm x nw)) nY)) 0 0 := by
  intro sz
  refine gMet (V := V) (As := [.ref (am 0), .int x]) (cc := c_Mo_lacks) (maxL := 3) (ret := (some .int)) (by decide) rfl (Nat.le_of_ble_eq_true rfl) (fun a U h => ⟨h.1, h.2.2.2.1⟩) ?_
  intro p e s m below meth c E hr hlk hnm hv
  refine g_toW (sz := sz) (w := wM V am th nY ix bu np st sr go ca nw yo ce wo po ne sv cl mk bg dp sh nx spn) hv.2.2.1 hv.2.2.2.2 ?_
  have hA0 : ∀ q : Nat, s.heap.size ≤ q → va_A (wM V am th nY ix bu np st sr go ca nw yo ce wo po ne sv cl mk bg dp sh nx spn) sz q := fun q h => Or.inr (by rw [← hv.2.1]; exact h)
  have hx := xm_lt x hnw
  refine g_aload_n E d_Mo_lacks_0 rfl 0 rfl ?_
  refine g_iconst (v := nI 0) E d_Mo_lacks_1 (by decide) ?_
  refine pf_Mo_61 (ws' := wM V am 0 nY ix bu np st sr go ca nw yo ce wo po ne sv cl mk bg dp sh nx spn) E 0 rfl rfl rfl (Nat.le_of_ble_eq_true rfl) rfl d_Mo_lacks_2 ?_
  refine g_iload_n E d_Mo_lacks_5 rfl 1 rfl ?_
  refine g_iconst (v := nI 1) E d_Mo_lacks_6 (by decide) ?_
  refine g_aload_n E d_Mo_lacks_7 rfl 0 rfl ?_
  refine gf_Mo_75 E gO_w 0 rfl rfl d_Mo_lacks_8 ?_
  refine g_ishl E d_Mo_lacks_11 ?_
  refine g_topi (nI_pow (by omega)) ?_
  refine g_iconst (v := nI 1) E d_Mo_lacks_12 (by decide) ?_
  refine g_isub E d_Mo_lacks_13 ?_
  refine g_topi (pk_sub (Nat.one_le_two_pow)) ?_
  refine g_iand E d_Mo_lacks_14 ?_
  refine g_topi (x_all x hnw) ?_
  refine g_istore_n (lv' := [(2, .int (nI (xm x nw))), (0, .ref (am 0)), (1, .int x)]) E d_Mo_lacks_15 rfl (by decide) rfl ?_
  refine g_aload_n E d_Mo_lacks_16 rfl 1 rfl ?_
  refine g_iload_n E d_Mo_lacks_17 rfl 0 rfl ?_
  refine gpVi (As := [.int (nI (xm x nw))]) (rest := []) E gO_w 0 rfl rfl (C_Mo_goesTogether l (xm x nw) (by omega) hnw hne hyo) (cs_Mo_137 E rfl rfl ⟨Nat.le_of_ble_eq_true rfl, Nat.le_of_ble_eq_true rfl⟩) rfl rfl (Nat.le_of_ble_eq_true rfl) ⟨Nat.zero_le _, Nat.zero_le _⟩ d_Mo_lacks_18 ?_
  refine g_topi (show bI _ = nI 1 from by rw [hag]; rfl) ?_
  refine g_nif_eq E 33 d_Mo_lacks_21 (by decide) (by decide) (fun h1 => absurd h1 (by decide)) (fun _ => ?_)
  refine g_aload_n E d_Mo_lacks_24 rfl 1 rfl ?_
  refine g_iload_n E d_Mo_lacks_25 rfl 0 rfl ?_
  refine gwVl (As := [.int (nI (xm x nw))]) (rest := []) (w' := wM V am 0 nY ix bu np st sr go ca nw yo ce wo po ne sv cl mk bg dp sh nx (sumZ (cS ix yo ce (fun a b => sv (10 * a + b)) nw (xm x nw)) nY)) (mc := 0) (ms := 0) E hA0 0 rfl rfl (C_Mo_lackOf l (xm x nw) (by omega) hY hbu hnw hyo hix hce hsv) (cs_Mo_140 E rfl rfl ⟨Nat.le_of_ble_eq_true rfl, Nat.le_of_ble_eq_true rfl⟩) rfl rfl (Nat.le_of_ble_eq_true rfl) ⟨Nat.zero_le _, Nat.zero_le _⟩ d_Mo_lacks_26 ?_
  refine g_l2i E d_Mo_lacks_29 ?_
  refine g_topi (lI_i _) ?_
  refine g_goto E 34 d_Mo_lacks_30 (by decide) ?_
  exact g_iret E hr hlk d_Mo_lacks_34 (gq_wi (w1 := fun _ => wM V am 0 nY ix bu np st sr go ca nw yo ce wo po ne sv cl mk bg dp sh nx (sumZ (cS ix yo ce (fun a b => sv (10 * a + b)) nw (xm x nw)) nY)) () (rfl))

set_option maxHeartbeats 4000000 in
set_option maxRecDepth 100000 in
theorem C_Mo_lacks_n (l : Launch) {V : gV} {am : Nat → Nat} {th nY : Nat} {ix bu : Nat → Nat} {np : Nat} {st sr go ca : Nat → Nat} {nw : Nat} {yo ce wo : Nat → Nat} {po ne : Nat → Option Nat} {sv : Nat → Nat} {cl : Nat → Bool} {mk bg dp : Nat} {sh nx : Nat → Nat} {spn : Int} (x : Int32) (hag : allN (agM cl ne yo (xm x nw)) nw = false) (hnw : nw ≤ 10) (hyo : ∀ w, yo w < 12) (hix : ∀ y, ix y ≤ 2000) (hce : ∀ w, ce w ≤ 1000000) (hsv : ∀ j, sv j ≤ 1000000) (hY : nY ≤ 12) (hbu : ∀ y, bu y ≤ 1000000000) (hwo : ∀ w, wo w ≤ 1000000) (hne : ∀ w q, ne w = some q → q < 10) : mWi l y_Mo_lacks (w_Mo_lacks :: gt) rm_Mo_lacks V (wM V am th nY ix bu np st sr go ca nw yo ce wo po ne sv cl mk bg dp sh nx spn) [.ref (am 0), .int x] (oN none) (wM V am 0 nY ix bu np st sr go ca nw yo ce wo po ne sv cl mk bg dp sh nx spn) 0 0 := by
  intro sz
  refine gMet (V := V) (As := [.ref (am 0), .int x]) (cc := c_Mo_lacks) (maxL := 3) (ret := (some .int)) (by decide) rfl (Nat.le_of_ble_eq_true rfl) (fun a U h => ⟨h.1, h.2.2.2.1⟩) ?_
  intro p e s m below meth c E hr hlk hnm hv
  refine g_toW (sz := sz) (w := wM V am th nY ix bu np st sr go ca nw yo ce wo po ne sv cl mk bg dp sh nx spn) hv.2.2.1 hv.2.2.2.2 ?_
  have hA0 : ∀ q : Nat, s.heap.size ≤ q → va_A (wM V am th nY ix bu np st sr go ca nw yo ce wo po ne sv cl mk bg dp sh nx spn) sz q := fun q h => Or.inr (by rw [← hv.2.1]; exact h)
  have hx := xm_lt x hnw
  refine g_aload_n E d_Mo_lacks_0 rfl 0 rfl ?_
  refine g_iconst (v := nI 0) E d_Mo_lacks_1 (by decide) ?_
  refine pf_Mo_61 (ws' := wM V am 0 nY ix bu np st sr go ca nw yo ce wo po ne sv cl mk bg dp sh nx spn) E 0 rfl rfl rfl (Nat.le_of_ble_eq_true rfl) rfl d_Mo_lacks_2 ?_
  refine g_iload_n E d_Mo_lacks_5 rfl 1 rfl ?_
  refine g_iconst (v := nI 1) E d_Mo_lacks_6 (by decide) ?_
  refine g_aload_n E d_Mo_lacks_7 rfl 0 rfl ?_
  refine gf_Mo_75 E gO_w 0 rfl rfl d_Mo_lacks_8 ?_
  refine g_ishl E d_Mo_lacks_11 ?_
  refine g_topi (nI_pow (by omega)) ?_
  refine g_iconst (v := nI 1) E d_Mo_lacks_12 (by decide) ?_
  refine g_isub E d_Mo_lacks_13 ?_
  refine g_topi (pk_sub (Nat.one_le_two_pow)) ?_
  refine g_iand E d_Mo_lacks_14 ?_
  refine g_topi (x_all x hnw) ?_
  refine g_istore_n (lv' := [(2, .int (nI (xm x nw))), (0, .ref (am 0)), (1, .int x)]) E d_Mo_lacks_15 rfl (by decide) rfl ?_
  refine g_aload_n E d_Mo_lacks_16 rfl 1 rfl ?_
  refine g_iload_n E d_Mo_lacks_17 rfl 0 rfl ?_
  refine gpVi (As := [.int (nI (xm x nw))]) (rest := []) E gO_w 0 rfl rfl (C_Mo_goesTogether l (xm x nw) (by omega) hnw hne hyo) (cs_Mo_137 E rfl rfl ⟨Nat.le_of_ble_eq_true rfl, Nat.le_of_ble_eq_true rfl⟩) rfl rfl (Nat.le_of_ble_eq_true rfl) ⟨Nat.zero_le _, Nat.zero_le _⟩ d_Mo_lacks_18 ?_
  refine g_topi (show bI _ = nI 0 from by rw [hag]; rfl) ?_
  refine g_nif_eq E 33 d_Mo_lacks_21 (by decide) (by decide) (fun _ => ?_) (fun h1 => absurd h1 (by decide))
  refine g_iconst (v := oN none) E d_Mo_lacks_33 (by decide) ?_
  exact g_iret E hr hlk d_Mo_lacks_34 (gq_wi (w1 := fun _ => wM V am 0 nY ix bu np st sr go ca nw yo ce wo po ne sv cl mk bg dp sh nx spn) () (rfl))

set_option maxHeartbeats 4000000 in
set_option maxRecDepth 100000 in
theorem C_Mo_money (l : Launch) {V : gV} {am : Nat → Nat} {th nY : Nat} {ix bu : Nat → Nat} {np : Nat} {st sr go ca : Nat → Nat} {nw : Nat} {yo ce wo : Nat → Nat} {po ne : Nat → Option Nat} {sv : Nat → Nat} {cl : Nat → Bool} {mk bg dp : Nat} {sh nx : Nat → Nat} {spn : Int} (k v : Nat) (h1 : k ≤ 1000000000) (h2 : v ≤ 1000000000) : mWv l y_Mo_money (w_Mo_money :: gt) rm_Mo_money V (wM V am th nY ix bu np st sr go ca nw yo ce wo po ne sv cl mk bg dp sh nx spn) [.ref (am 0), .int (nI k), .int (nI v)] (wM V am 0 nY ix bu np st sr go ca nw yo ce wo po ne sv cl mk k v sh nx spn) 0 0 := by
  intro sz
  refine gMet (V := V) (As := [.ref (am 0), .int (nI k), .int (nI v)]) (cc := c_Mo_money) (maxL := 3) (ret := none) (by decide) rfl (Nat.le_of_ble_eq_true rfl) (fun a U h => ⟨h.1, h.2.2.2.1⟩) ?_
  intro p e s m below meth c E hr hlk hnm hv
  refine g_toW (sz := sz) (w := wM V am th nY ix bu np st sr go ca nw yo ce wo po ne sv cl mk bg dp sh nx spn) hv.2.2.1 hv.2.2.2.2 ?_
  have hA0 : ∀ q : Nat, s.heap.size ≤ q → va_A (wM V am th nY ix bu np st sr go ca nw yo ce wo po ne sv cl mk bg dp sh nx spn) sz q := fun q h => Or.inr (by rw [← hv.2.1]; exact h)
  refine g_aload_n E d_Mo_money_0 rfl 0 rfl ?_
  refine g_iload_n E d_Mo_money_1 rfl 1 rfl ?_
  refine g_i2l E d_Mo_money_2 ?_
  refine g_topl (nI_l (by omega)) ?_
  refine g_lconst (v := lN 0) E d_Mo_money_3 (by decide) ?_
  refine g_ldc2 E kk_Mo_88 d_Mo_money_4 ?_
  refine g_topl (show ((1000000000) : Int64) = lN 1000000000 from by decide) ?_
  refine gpSi (As := [.long (lN k), .long (lN 0), .long (lN 1000000000)]) (rest := [.ref (am 0)]) E gO_w (C_Mo_within l (lN k) (lN 0) (lN 1000000000)) (cs_Mo_64 E rfl rfl ⟨Nat.le_of_ble_eq_true rfl, Nat.le_of_ble_eq_true rfl⟩) rfl rfl (Nat.le_of_ble_eq_true rfl) ⟨Nat.zero_le _, Nat.zero_le _⟩ d_Mo_money_7 ?_
  refine g_topi (congrArg bI (inBL_N (by omega) (by omega) (by omega))) ?_
  refine g_topi (show bI _ = nI 1 from by rw [inB_y (by omega) (by omega) (by omega)]; rfl) ?_
  refine g_nif_eq E 29 d_Mo_money_10 (by decide) (by decide) (fun h1 => absurd h1 (by decide)) (fun _ => ?_)
  refine g_iload_n E d_Mo_money_13 rfl 2 rfl ?_
  refine g_i2l E d_Mo_money_14 ?_
  refine g_topl (nI_l (by omega)) ?_
  refine g_lconst (v := lN 0) E d_Mo_money_15 (by decide) ?_
  refine g_ldc2 E kk_Mo_88 d_Mo_money_16 ?_
  refine g_topl (show ((1000000000) : Int64) = lN 1000000000 from by decide) ?_
  refine gpSi (As := [.long (lN v), .long (lN 0), .long (lN 1000000000)]) (rest := [.ref (am 0)]) E gO_w (C_Mo_within l (lN v) (lN 0) (lN 1000000000)) (cs_Mo_64 E rfl rfl ⟨Nat.le_of_ble_eq_true rfl, Nat.le_of_ble_eq_true rfl⟩) rfl rfl (Nat.le_of_ble_eq_true rfl) ⟨Nat.zero_le _, Nat.zero_le _⟩ d_Mo_money_19 ?_
  refine g_topi (congrArg bI (inBL_N (by omega) (by omega) (by omega))) ?_
  refine g_topi (show bI _ = nI 1 from by rw [inB_y (by omega) (by omega) (by omega)]; rfl) ?_
  refine g_nif_eq E 29 d_Mo_money_22 (by decide) (by decide) (fun h2 => absurd h2 (by decide)) (fun _ => ?_)
  refine g_iconst (v := nI 0) E d_Mo_money_25 (by decide) ?_
  refine g_goto E 30 d_Mo_money_26 (by decide) ?_
  refine gwVi (As := [.int (nI 0)]) (rest := []) (w' := wM V am 0 nY ix bu np st sr go ca nw yo ce wo po ne sv cl mk bg dp sh nx spn) (mc := 0) (ms := 0) E hA0 0 rfl rfl (C_Mo_refuses_0 l) (cs_Mo_85 E rfl rfl ⟨Nat.le_of_ble_eq_true rfl, Nat.le_of_ble_eq_true rfl⟩) rfl rfl (Nat.le_of_ble_eq_true rfl) ⟨Nat.zero_le _, Nat.zero_le _⟩ d_Mo_money_30 ?_
  refine g_nif_ne E 48 d_Mo_money_33 (by decide) (by decide) (fun h3 => absurd h3 (by decide)) (fun _ => ?_)
  refine g_aload_n E d_Mo_money_36 rfl 0 rfl ?_
  refine g_iload_n E d_Mo_money_37 rfl 1 rfl ?_
  refine g_i2l E d_Mo_money_38 ?_
  refine g_topl (nI_l (by omega)) ?_
  refine pf_Mo_144 (ws' := wM V am 0 nY ix bu np st sr go ca nw yo ce wo po ne sv cl mk k dp sh nx spn) E 0 rfl rfl rfl (Nat.le_of_ble_eq_true rfl) rfl d_Mo_money_39 ?_
  refine g_aload_n E d_Mo_money_42 rfl 0 rfl ?_
  refine g_iload_n E d_Mo_money_43 rfl 2 rfl ?_
  refine g_i2l E d_Mo_money_44 ?_
  refine g_topl (nI_l (by omega)) ?_
  refine pf_Mo_147 (ws' := wM V am 0 nY ix bu np st sr go ca nw yo ce wo po ne sv cl mk k v sh nx spn) E 0 rfl rfl rfl (Nat.le_of_ble_eq_true rfl) rfl d_Mo_money_45 ?_
  exact g_vret E hr hlk d_Mo_money_48 (gq_wv (w1 := fun _ => wM V am 0 nY ix bu np st sr go ca nw yo ce wo po ne sv cl mk k v sh nx spn) () trivial)

set_option maxHeartbeats 4000000 in
set_option maxRecDepth 100000 in
theorem C_Mo_reserve (l : Launch) {V : gV} {am : Nat → Nat} {th nY : Nat} {ix bu : Nat → Nat} {np : Nat} {st sr go ca : Nat → Nat} {nw : Nat} {yo ce wo : Nat → Nat} {po ne : Nat → Option Nat} {sv : Nat → Nat} {cl : Nat → Bool} {mk bg dp : Nat} {sh nx : Nat → Nat} {spn : Int} (y : Nat) (hy : y < nY) (hY : nY ≤ 12) (cf : Nat → Nat → Nat) (hCf : ∀ i y u, i < np → y < 12 → cM ix go ca sr po yo mk nw i y u = cf i y) (hnp : np ≤ 12) (hnw : nw ≤ 10) (hmk : mk < 1024) (hyo : ∀ w, yo w < 12) (hpo : ∀ w q, po w = some q → q < 12) (hlv : ∀ p a, lvN go p a ≤ 16) (hgo : ∀ j, go j ≤ 16) (hsr : ∀ i, sr i < 4) (hca : ∀ j, ca j ≤ 1000) (hix : ∀ y, ix y ≤ 2000) (hT : ∀ i y u, i < np → y < 12 → tM go ca sr po yo mk nw i y u < 2 ^ 62) (hD : ∀ i y u, i < np → y < 12 → tM go ca sr po yo mk nw i y u / 16 ^ (y - bgN po yo mk i y nw) ≤ 1000) (hce : ∀ w, ce w ≤ 1000000) (hsv : ∀ j, sv j ≤ 1000000) : mWl l y_Mo_reserve (w_Mo_reserve :: gt) rm_Mo_reserve V (wM V am th nY ix bu np st sr go ca nw yo ce wo po ne sv cl mk bg dp sh nx spn) [.ref (am 0), .int (nI y)] (lI (rM cf (cS ix yo ce (fun a b => sv (10 * a + b)) nw mk) bg dp np y)) (wM V am 0 nY ix bu np st sr go ca nw yo ce wo po ne sv cl mk bg dp ((jY go sr po yo mk nw np (sh, nx) (y + 1)).1) ((jY go sr po yo mk nw np (sh, nx) (y + 1)).2) spn) 0 0 := by
  intro sz
  refine gMet (V := V) (As := [.ref (am 0), .int (nI y)]) (cc := c_Mo_reserve) (maxL := 2) (ret := (some .long)) (by decide) rfl (Nat.le_of_ble_eq_true rfl) (fun a U h => ⟨h.1, h.2.2.2.1⟩) ?_
  intro p e s m below meth c E hr hlk hnm hv
  refine g_toW (sz := sz) (w := wM V am th nY ix bu np st sr go ca nw yo ce wo po ne sv cl mk bg dp sh nx spn) hv.2.2.1 hv.2.2.2.2 ?_
  have hA0 : ∀ q : Nat, s.heap.size ≤ q → va_A (wM V am th nY ix bu np st sr go ca nw yo ce wo po ne sv cl mk bg dp sh nx spn) sz q := fun q h => Or.inr (by rw [← hv.2.1]; exact h)
  refine g_aload_n E d_Mo_reserve_0 rfl 0 rfl ?_
  refine g_aload_n E d_Mo_reserve_1 rfl 0 rfl ?_
  refine g_iload_n E d_Mo_reserve_2 rfl 1 rfl ?_
  refine gpVi (As := [.int (nI y)]) (rest := [.ref (am 0)]) E gO_w 0 rfl rfl (C_Mo_isYear l (nI y) (by omega)) (cs_Mo_78 E rfl rfl ⟨Nat.le_of_ble_eq_true rfl, Nat.le_of_ble_eq_true rfl⟩) rfl rfl (Nat.le_of_ble_eq_true rfl) ⟨Nat.zero_le _, Nat.zero_le _⟩ d_Mo_reserve_3 ?_
  refine g_topi (show bI _ = nI 1 from by rw [inR_y (by omega) (by omega)]; rfl) ?_
  refine g_nif_eq E 13 d_Mo_reserve_6 (by decide) (by decide) (fun h1 => absurd h1 (by decide)) (fun _ => ?_)
  refine g_iconst (v := nI 0) E d_Mo_reserve_9 (by decide) ?_
  refine g_goto E 14 d_Mo_reserve_10 (by decide) ?_
  refine gwVi (As := [.int (nI 0)]) (rest := []) (w' := wM V am 0 nY ix bu np st sr go ca nw yo ce wo po ne sv cl mk bg dp sh nx spn) (mc := 0) (ms := 0) E hA0 0 rfl rfl (C_Mo_refuses_0 l) (cs_Mo_85 E rfl rfl ⟨Nat.le_of_ble_eq_true rfl, Nat.le_of_ble_eq_true rfl⟩) rfl rfl (Nat.le_of_ble_eq_true rfl) ⟨Nat.zero_le _, Nat.zero_le _⟩ d_Mo_reserve_14 ?_
  refine g_nif_eq E 24 d_Mo_reserve_17 (by decide) (by decide) (fun _ => ?_) (fun h2 => absurd h2 (by decide))
  refine g_aload_n E d_Mo_reserve_24 rfl 0 rfl ?_
  refine g_iload_n E d_Mo_reserve_25 rfl 1 rfl ?_
  refine gwVl (As := [.int (nI y)]) (rest := []) (w' := wM V am 0 nY ix bu np st sr go ca nw yo ce wo po ne sv cl mk bg dp ((jY go sr po yo mk nw np (sh, nx) (y + 1)).1) ((jY go sr po yo mk nw np (sh, nx) (y + 1)).2) spn) (mc := 0) (ms := 0) E hA0 0 rfl rfl (C_Mo_reserveOf l y (by omega) cf hCf hnp hnw hmk hyo hpo hlv hgo hsr hca hix hT hD hce hsv) (cs_Mo_150 E rfl rfl ⟨Nat.le_of_ble_eq_true rfl, Nat.le_of_ble_eq_true rfl⟩) rfl rfl (Nat.le_of_ble_eq_true rfl) ⟨Nat.zero_le _, Nat.zero_le _⟩ d_Mo_reserve_26 ?_
  exact g_lret E hr hlk d_Mo_reserve_29 (gq_wl (w1 := fun _ => wM V am 0 nY ix bu np st sr go ca nw yo ce wo po ne sv cl mk bg dp ((jY go sr po yo mk nw np (sh, nx) (y + 1)).1) ((jY go sr po yo mk nw np (sh, nx) (y + 1)).2) spn) () (rfl))

set_option maxHeartbeats 4000000 in
set_option maxRecDepth 100000 in
theorem C_Mo_shortIn (l : Launch) {V : gV} {am : Nat → Nat} {th nY : Nat} {ix bu : Nat → Nat} {np : Nat} {st sr go ca : Nat → Nat} {nw : Nat} {yo ce wo : Nat → Nat} {po ne : Nat → Option Nat} {sv : Nat → Nat} {cl : Nat → Bool} {mk bg dp : Nat} {sh nx : Nat → Nat} {spn : Int} (hY : nY ≤ 12) (cf : Nat → Nat → Nat) (hCf : ∀ i y u, i < np → y < 12 → cM ix go ca sr po yo mk nw i y u = cf i y) (hnp : np ≤ 12) (hnw : nw ≤ 10) (hmk : mk < 1024) (hyo : ∀ w, yo w < 12) (hpo : ∀ w q, po w = some q → q < 12) (hlv : ∀ p a, lvN go p a ≤ 16) (hgo : ∀ j, go j ≤ 16) (hsr : ∀ i, sr i < 4) (hca : ∀ j, ca j ≤ 1000) (hix : ∀ y, ix y ≤ 2000) (hT : ∀ i y u, i < np → y < 12 → tM go ca sr po yo mk nw i y u < 2 ^ 62) (hD : ∀ i y u, i < np → y < 12 → tM go ca sr po yo mk nw i y u / 16 ^ (y - bgN po yo mk i y nw) ≤ 1000) (hce : ∀ w, ce w ≤ 1000000) (hsv : ∀ j, sv j ≤ 1000000) (hB : ∀ y, y < 12 → -100000000000 ≤ rM cf (cS ix yo ce (fun a b => sv (10 * a + b)) nw mk) bg dp np y ∧ rM cf (cS ix yo ce (fun a b => sv (10 * a + b)) nw mk) bg dp np y ≤ 100000000000) : mWi l y_Mo_shortIn (w_Mo_shortIn :: gt) rm_Mo_shortIn V (wM V am th nY ix bu np st sr go ca nw yo ce wo po ne sv cl mk bg dp sh nx spn) [.ref (am 0)] (oN (fs0 (rM cf (cS ix yo ce (fun a b => sv (10 * a + b)) nw mk) bg dp np) nY)) (wM V am 0 nY ix bu np st sr go ca nw yo ce wo po ne sv cl mk bg dp ((jZ go sr po yo mk nw np (sh, nx) (enZ (rM cf (cS ix yo ce (fun a b => sv (10 * a + b)) nw mk) bg dp np) nY)).1) ((jZ go sr po yo mk nw np (sh, nx) (enZ (rM cf (cS ix yo ce (fun a b => sv (10 * a + b)) nw mk) bg dp np) nY)).2) spn) 0 0 := by
  intro sz
  refine gMet (V := V) (As := [.ref (am 0)]) (cc := c_Mo_shortIn) (maxL := 2) (ret := (some .int)) (by decide) rfl (Nat.le_of_ble_eq_true rfl) (fun a U h => ⟨h.1, h.2.2.2.1⟩) ?_
  intro p e s m below meth c E hr hlk hnm hv
  refine g_toW (sz := sz) (w := wM V am th nY ix bu np st sr go ca nw yo ce wo po ne sv cl mk bg dp sh nx spn) hv.2.2.1 hv.2.2.2.2 ?_
  have hA0 : ∀ q : Nat, s.heap.size ≤ q → va_A (wM V am th nY ix bu np st sr go ca nw yo ce wo po ne sv cl mk bg dp sh nx spn) sz q := fun q h => Or.inr (by rw [← hv.2.1]; exact h)
  refine g_aload_n E d_Mo_shortIn_0 rfl 0 rfl ?_
  refine g_iconst (v := nI 0) E d_Mo_shortIn_1 (by decide) ?_
  refine pf_Mo_61 (ws' := wM V am 0 nY ix bu np st sr go ca nw yo ce wo po ne sv cl mk bg dp sh nx spn) E 0 rfl rfl rfl (Nat.le_of_ble_eq_true rfl) rfl d_Mo_shortIn_2 ?_
  refine g_iconst (v := nI 0) E d_Mo_shortIn_5 (by decide) ?_
  refine g_istore_n (lv' := [(1, .int (nI 0)), (0, .ref (am 0))]) E d_Mo_shortIn_6 rfl (by decide) rfl ?_
  refine g_lv [0, 1] rfl ?_
  refine g_ws (ws' := wM V am 0 nY ix bu np st sr go ca nw yo ce wo po ne sv cl mk bg dp ((jZ go sr po yo mk nw np (sh, nx) 0).1) ((jZ go sr po yo mk nw np (sh, nx) 0).2) spn) rfl ?_
  refine gloop (α := Nat) (fun a_ => gW V _ _ (wM V am 0 nY ix bu np st sr go ca nw yo ce wo po ne sv cl mk bg dp ((jZ go sr po yo mk nw np (sh, nx) a_).1) ((jZ go sr po yo mk nw np (sh, nx) a_).2) spn)) (fun a_ => [(1, .int (nI a_)), (0, .ref (am 0))]) (fun a_ => a_ ≤ nY ∧ fs0 (rM cf (cS ix yo ce (fun a b => sv (10 * a + b)) nw mk) bg dp np) a_ = none) (fun a_ => nY - a_) (0) (⟨Nat.zero_le _, rfl⟩) ?_
  rintro y hI_7 ih_7
  try dsimp only at hI_7 ih_7 ⊢
  refine g_iload_n E d_Mo_shortIn_7 rfl 0 rfl ?_
  refine g_aload_n E d_Mo_shortIn_8 rfl 1 rfl ?_
  refine gf_Mo_57 E gO_w 0 rfl rfl d_Mo_shortIn_9 ?_
  refine g_ncmp_ge E 33 d_Mo_shortIn_12 (by decide) (by omega) (by omega) (fun h1 => ?_) (fun h1 => ?_)
  · refine g_iconst (v := oN none) E d_Mo_shortIn_33 (by decide) ?_
    refine g_ws (ws' := wM V am 0 nY ix bu np st sr go ca nw yo ce wo po ne sv cl mk bg dp ((jZ go sr po yo mk nw np (sh, nx) (enZ (rM cf (cS ix yo ce (fun a b => sv (10 * a + b)) nw mk) bg dp np) nY)).1) ((jZ go sr po yo mk nw np (sh, nx) (enZ (rM cf (cS ix yo ce (fun a b => sv (10 * a + b)) nw mk) bg dp np) nY)).2) spn) (by have e := hI_7.2; rw [show y = nY by omega] at e; rw [show y = nY by omega, enZ, e]) ?_
    exact g_iret E hr hlk d_Mo_shortIn_34 (gq_wi (w1 := fun _ => wM V am 0 nY ix bu np st sr go ca nw yo ce wo po ne sv cl mk bg dp ((jZ go sr po yo mk nw np (sh, nx) (enZ (rM cf (cS ix yo ce (fun a b => sv (10 * a + b)) nw mk) bg dp np) nY)).1) ((jZ go sr po yo mk nw np (sh, nx) (enZ (rM cf (cS ix yo ce (fun a b => sv (10 * a + b)) nw mk) bg dp np) nY)).2) spn) () (by rw [show nY = y by omega, hI_7.2]))
  · refine g_aload_n E d_Mo_shortIn_15 rfl 1 rfl ?_
    refine g_iload_n E d_Mo_shortIn_16 rfl 0 rfl ?_
    refine gwVl (As := [.int (nI y)]) (rest := []) (w' := wM V am 0 nY ix bu np st sr go ca nw yo ce wo po ne sv cl mk bg dp ((jY go sr po yo mk nw np ((jZ go sr po yo mk nw np (sh, nx) y).1, (jZ go sr po yo mk nw np (sh, nx) y).2) (y + 1)).1) ((jY go sr po yo mk nw np ((jZ go sr po yo mk nw np (sh, nx) y).1, (jZ go sr po yo mk nw np (sh, nx) y).2) (y + 1)).2) spn) (mc := 0) (ms := 0) E hA0 0 rfl rfl (C_Mo_reserveOf l y (by omega) cf hCf hnp hnw hmk hyo hpo hlv hgo hsr hca hix hT hD hce hsv) (cs_Mo_150 E rfl rfl ⟨Nat.le_of_ble_eq_true rfl, Nat.le_of_ble_eq_true rfl⟩) rfl rfl (Nat.le_of_ble_eq_true rfl) ⟨Nat.zero_le _, Nat.zero_le _⟩ d_Mo_shortIn_17 ?_
    have bb := hB y (by omega)
    refine g_lconst (v := lN 0) E d_Mo_shortIn_20 (by decide) ?_
    refine g_lcmp E d_Mo_shortIn_21 ?_
    refine g_if_ge E 27 d_Mo_shortIn_22 (by decide) (fun h2 => ?_) (fun h2 => ?_)
    · rw [← Int32.not_lt, lg_lt, show lN 0 = lI 0 from lN_lI 0, lI_lt (by omega) (by omega) (by decide) (by decide)] at h2
      refine g_iinc (lv' := [(1, .int (nI (y + 1))), (0, .ref (am 0))]) E d_Mo_shortIn_27 0 rfl (nI_inc _) (by decide) rfl ?_
      refine g_goto E 7 d_Mo_shortIn_30 (by decide) ?_
      refine g_lv [0, 1] rfl ?_
      refine g_ws (ws' := wM V am 0 nY ix bu np st sr go ca nw yo ce wo po ne sv cl mk bg dp ((jZ go sr po yo mk nw np (sh, nx) (y + 1)).1) ((jZ go sr po yo mk nw np (sh, nx) (y + 1)).2) spn) rfl ?_
      exact ih_7 (y + 1) (⟨by (try dsimp only); omega, fs0_no hI_7.2 h2⟩) (by (try dsimp only); omega)
    · rw [← Int32.not_lt, lg_lt, show lN 0 = lI 0 from lN_lI 0, lI_lt (by omega) (by omega) (by decide) (by decide), Classical.not_not] at h2
      refine g_iload_n E d_Mo_shortIn_25 rfl 0 rfl ?_
      refine g_ws (ws' := wM V am 0 nY ix bu np st sr go ca nw yo ce wo po ne sv cl mk bg dp ((jZ go sr po yo mk nw np (sh, nx) (enZ (rM cf (cS ix yo ce (fun a b => sv (10 * a + b)) nw mk) bg dp np) nY)).1) ((jZ go sr po yo mk nw np (sh, nx) (enZ (rM cf (cS ix yo ce (fun a b => sv (10 * a + b)) nw mk) bg dp np) nY)).2) spn) (by rw [enZ, fs0_at hI_7.2 h2 nY (by omega)]; rfl) ?_
      exact g_iret E hr hlk d_Mo_shortIn_26 (gq_wi (w1 := fun _ => wM V am 0 nY ix bu np st sr go ca nw yo ce wo po ne sv cl mk bg dp ((jZ go sr po yo mk nw np (sh, nx) (enZ (rM cf (cS ix yo ce (fun a b => sv (10 * a + b)) nw mk) bg dp np) nY)).1) ((jZ go sr po yo mk nw np (sh, nx) (enZ (rM cf (cS ix yo ce (fun a b => sv (10 * a + b)) nw mk) bg dp np) nY)).2) spn) () (by rw [fs0_at hI_7.2 h2 nY (by omega)]; rfl))

set_option maxHeartbeats 4000000 in
set_option maxRecDepth 100000 in
theorem C_Mo_payment (l : Launch) {V : gV} {am : Nat → Nat} {th nY : Nat} {ix bu : Nat → Nat} {np : Nat} {st sr go ca : Nat → Nat} {nw : Nat} {yo ce wo : Nat → Nat} {po ne : Nat → Option Nat} {sv : Nat → Nat} {cl : Nat → Bool} {mk bg dp : Nat} {sh nx : Nat → Nat} {spn : Int} (k r n : Nat) (h1 : 1 ≤ k) (h2 : k ≤ 1000000000) (h3 : r ≤ 2000) (h4 : 1 ≤ n) (h5 : n ≤ 30) : mWi l y_Mo_payment (w_Mo_payment :: gt) rm_Mo_payment V (wM V am th nY ix bu np st sr go ca nw yo ce wo po ne sv cl mk bg dp sh nx spn) [.ref (am 0), .int (nI k), .int (nI r), .int (nI n)] (nI (lpN k r n 31 + 1)) (wM V am 0 nY ix bu np st sr go ca nw yo ce wo po ne sv cl mk bg dp sh nx spn) 0 0 := by
  intro sz
  refine gMet (V := V) (As := [.ref (am 0), .int (nI k), .int (nI r), .int (nI n)]) (cc := c_Mo_payment) (maxL := 4) (ret := (some .int)) (by decide) rfl (Nat.le_of_ble_eq_true rfl) (fun a U h => ⟨h.1, h.2.2.2.1⟩) ?_
  intro p e s m below meth c E hr hlk hnm hv
  refine g_toW (sz := sz) (w := wM V am th nY ix bu np st sr go ca nw yo ce wo po ne sv cl mk bg dp sh nx spn) hv.2.2.1 hv.2.2.2.2 ?_
  have hA0 : ∀ q : Nat, s.heap.size ≤ q → va_A (wM V am th nY ix bu np st sr go ca nw yo ce wo po ne sv cl mk bg dp sh nx spn) sz q := fun q h => Or.inr (by rw [← hv.2.1]; exact h)
  refine g_aload_n E d_Mo_payment_0 rfl 0 rfl ?_
  refine g_iload_n E d_Mo_payment_1 rfl 1 rfl ?_
  refine g_iload_n E d_Mo_payment_2 rfl 2 rfl ?_
  refine g_iload_n E d_Mo_payment_3 rfl 3 rfl ?_
  refine gpSi (As := [.int (nI k), .int (nI r), .int (nI n)]) (rest := [.ref (am 0)]) E gO_w (C_Mo_isLoan l (nI k) (nI r) (nI n)) (cs_Mo_165 E rfl rfl ⟨Nat.le_of_ble_eq_true rfl, Nat.le_of_ble_eq_true rfl⟩) rfl rfl (Nat.le_of_ble_eq_true rfl) ⟨Nat.zero_le _, Nat.zero_le _⟩ d_Mo_payment_4 ?_
  refine g_topi (show bI _ = nI 1 from by rw [isL_y (by omega) (by omega) (by omega) (by omega) (by omega)]; rfl) ?_
  refine g_nif_eq E 14 d_Mo_payment_7 (by decide) (by decide) (fun h1 => absurd h1 (by decide)) (fun _ => ?_)
  refine g_iconst (v := nI 0) E d_Mo_payment_10 (by decide) ?_
  refine g_goto E 15 d_Mo_payment_11 (by decide) ?_
  refine gwVi (As := [.int (nI 0)]) (rest := []) (w' := wM V am 0 nY ix bu np st sr go ca nw yo ce wo po ne sv cl mk bg dp sh nx spn) (mc := 0) (ms := 0) E hA0 0 rfl rfl (C_Mo_refuses_0 l) (cs_Mo_85 E rfl rfl ⟨Nat.le_of_ble_eq_true rfl, Nat.le_of_ble_eq_true rfl⟩) rfl rfl (Nat.le_of_ble_eq_true rfl) ⟨Nat.zero_le _, Nat.zero_le _⟩ d_Mo_payment_15 ?_
  refine g_nif_eq E 25 d_Mo_payment_18 (by decide) (by decide) (fun _ => ?_) (fun h2 => absurd h2 (by decide))
  refine g_iload_n E d_Mo_payment_25 rfl 1 rfl ?_
  refine g_iload_n E d_Mo_payment_26 rfl 2 rfl ?_
  refine g_iload_n E d_Mo_payment_27 rfl 3 rfl ?_
  refine gpSl (As := [.int (nI k), .int (nI r), .int (nI n)]) (rest := []) E gO_w (C_Mo_paymentOf l k r n (by omega) (by omega) (by omega) (by omega) (by omega)) (cs_Mo_169 E rfl rfl ⟨Nat.le_of_ble_eq_true rfl, Nat.le_of_ble_eq_true rfl⟩) rfl rfl (Nat.le_of_ble_eq_true rfl) ⟨Nat.zero_le _, Nat.zero_le _⟩ d_Mo_payment_28 ?_
  refine g_l2i E d_Mo_payment_31 ?_
  refine g_topi (lN_i _) ?_
  exact g_iret E hr hlk d_Mo_payment_32 (gq_wi (w1 := fun _ => wM V am 0 nY ix bu np st sr go ca nw yo ce wo po ne sv cl mk bg dp sh nx spn) () (rfl))

set_option maxHeartbeats 4000000 in
set_option maxRecDepth 100000 in
theorem C_Mo_rest (l : Launch) {V : gV} {am : Nat → Nat} {th nY : Nat} {ix bu : Nat → Nat} {np : Nat} {st sr go ca : Nat → Nat} {nw : Nat} {yo ce wo : Nat → Nat} {po ne : Nat → Option Nat} {sv : Nat → Nat} {cl : Nat → Bool} {mk bg dp : Nat} {sh nx : Nat → Nat} {spn : Int} (k r n t : Nat) (h1 : 1 ≤ k) (h2 : k ≤ 1000000000) (h3 : r ≤ 2000) (h4 : 1 ≤ n) (h5 : n ≤ 30) (h6 : t ≤ n) : mWi l y_Mo_rest (w_Mo_rest :: gt) rm_Mo_rest V (wM V am th nY ix bu np st sr go ca nw yo ce wo po ne sv cl mk bg dp sh nx spn) [.ref (am 0), .int (nI k), .int (nI r), .int (nI n), .int (nI t)] (nI (rB k r (lpN k r n 31 + 1) t)) (wM V am 0 nY ix bu np st sr go ca nw yo ce wo po ne sv cl mk bg dp sh nx spn) 0 0 := by
  intro sz
  refine gMet (V := V) (As := [.ref (am 0), .int (nI k), .int (nI r), .int (nI n), .int (nI t)]) (cc := c_Mo_rest) (maxL := 5) (ret := (some .int)) (by decide) rfl (Nat.le_of_ble_eq_true rfl) (fun a U h => ⟨h.1, h.2.2.2.1⟩) ?_
  intro p e s m below meth c E hr hlk hnm hv
  refine g_toW (sz := sz) (w := wM V am th nY ix bu np st sr go ca nw yo ce wo po ne sv cl mk bg dp sh nx spn) hv.2.2.1 hv.2.2.2.2 ?_
  have hA0 : ∀ q : Nat, s.heap.size ≤ q → va_A (wM V am th nY ix bu np st sr go ca nw yo ce wo po ne sv cl mk bg dp sh nx spn) sz q := fun q h => Or.inr (by rw [← hv.2.1]; exact h)
  have h7 := lp_lt k r n
  refine g_aload_n E d_Mo_rest_0 rfl 0 rfl ?_
  refine g_iload_n E d_Mo_rest_1 rfl 1 rfl ?_
  refine g_iload_n E d_Mo_rest_2 rfl 2 rfl ?_
  refine g_iload_n E d_Mo_rest_3 rfl 3 rfl ?_
  refine gpSi (As := [.int (nI k), .int (nI r), .int (nI n)]) (rest := [.ref (am 0)]) E gO_w (C_Mo_isLoan l (nI k) (nI r) (nI n)) (cs_Mo_165 E rfl rfl ⟨Nat.le_of_ble_eq_true rfl, Nat.le_of_ble_eq_true rfl⟩) rfl rfl (Nat.le_of_ble_eq_true rfl) ⟨Nat.zero_le _, Nat.zero_le _⟩ d_Mo_rest_4 ?_
  refine g_topi (show bI _ = nI 1 from by rw [isL_y (by omega) (by omega) (by omega) (by omega) (by omega)]; rfl) ?_
  refine g_nif_eq E 26 d_Mo_rest_7 (by decide) (by decide) (fun h1 => absurd h1 (by decide)) (fun _ => ?_)
  refine g_iload E d_Mo_rest_10 4 rfl ?_
  refine g_i2l E d_Mo_rest_12 ?_
  refine g_topl (nI_l (by omega)) ?_
  refine g_lconst (v := lN 0) E d_Mo_rest_13 (by decide) ?_
  refine g_iload_n E d_Mo_rest_14 rfl 3 rfl ?_
  refine g_i2l E d_Mo_rest_15 ?_
  refine g_topl (nI_l (by omega)) ?_
  refine gpSi (As := [.long (lN t), .long (lN 0), .long (lN n)]) (rest := [.ref (am 0)]) E gO_w (C_Mo_within l (lN t) (lN 0) (lN n)) (cs_Mo_64 E rfl rfl ⟨Nat.le_of_ble_eq_true rfl, Nat.le_of_ble_eq_true rfl⟩) rfl rfl (Nat.le_of_ble_eq_true rfl) ⟨Nat.zero_le _, Nat.zero_le _⟩ d_Mo_rest_16 ?_
  refine g_topi (congrArg bI (inBL_N (by omega) (by omega) (by omega))) ?_
  refine g_topi (show bI _ = nI 1 from by rw [inB_y (by omega) (by omega) (by omega)]; rfl) ?_
  refine g_nif_eq E 26 d_Mo_rest_19 (by decide) (by decide) (fun h2 => absurd h2 (by decide)) (fun _ => ?_)
  refine g_iconst (v := nI 0) E d_Mo_rest_22 (by decide) ?_
  refine g_goto E 27 d_Mo_rest_23 (by decide) ?_
  refine gwVi (As := [.int (nI 0)]) (rest := []) (w' := wM V am 0 nY ix bu np st sr go ca nw yo ce wo po ne sv cl mk bg dp sh nx spn) (mc := 0) (ms := 0) E hA0 0 rfl rfl (C_Mo_refuses_0 l) (cs_Mo_85 E rfl rfl ⟨Nat.le_of_ble_eq_true rfl, Nat.le_of_ble_eq_true rfl⟩) rfl rfl (Nat.le_of_ble_eq_true rfl) ⟨Nat.zero_le _, Nat.zero_le _⟩ d_Mo_rest_27 ?_
  refine g_nif_eq E 35 d_Mo_rest_30 (by decide) (by decide) (fun _ => ?_) (fun h3 => absurd h3 (by decide))
  refine g_iload_n E d_Mo_rest_35 rfl 1 rfl ?_
  refine g_i2l E d_Mo_rest_36 ?_
  refine g_topl (nI_l (by omega)) ?_
  refine g_iload_n E d_Mo_rest_37 rfl 2 rfl ?_
  refine g_iload E d_Mo_rest_38 4 rfl ?_
  refine g_iload_n E d_Mo_rest_40 rfl 1 rfl ?_
  refine g_iload_n E d_Mo_rest_41 rfl 2 rfl ?_
  refine g_iload_n E d_Mo_rest_42 rfl 3 rfl ?_
  refine gpSl (As := [.int (nI k), .int (nI r), .int (nI n)]) (rest := [.int (nI t), .int (nI r), .long (lN k)]) E gO_w (C_Mo_paymentOf l k r n (by omega) (by omega) (by omega) (by omega) (by omega)) (cs_Mo_169 E rfl rfl ⟨Nat.le_of_ble_eq_true rfl, Nat.le_of_ble_eq_true rfl⟩) rfl rfl (Nat.le_of_ble_eq_true rfl) ⟨Nat.zero_le _, Nat.zero_le _⟩ d_Mo_rest_43 ?_
  refine gpSl (As := [.long (lN k), .int (nI r), .int (nI t), .long (lN (lpN k r n 31 + 1))]) (rest := []) E gO_w (C_Mo_restOf l k r t (lpN k r n 31 + 1) (by omega) (by omega) (by omega) (by omega)) (cs_Mo_159 E rfl rfl ⟨Nat.le_of_ble_eq_true rfl, Nat.le_of_ble_eq_true rfl⟩) rfl rfl (Nat.le_of_ble_eq_true rfl) ⟨Nat.zero_le _, Nat.zero_le _⟩ d_Mo_rest_46 ?_
  refine g_l2i E d_Mo_rest_49 ?_
  refine g_topi (lN_i _) ?_
  exact g_iret E hr hlk d_Mo_rest_50 (gq_wi (w1 := fun _ => wM V am 0 nY ix bu np st sr go ca nw yo ce wo po ne sv cl mk bg dp sh nx spn) () (rfl))

set_option maxHeartbeats 4000000 in
set_option maxRecDepth 100000 in
theorem Y_Mo_index (l : Launch) {V : gV} {am : Nat → Nat} {th nY : Nat} {ix bu : Nat → Nat} {np : Nat} {st sr go ca : Nat → Nat} {nw : Nat} {yo ce wo : Nat → Nat} {po ne : Nat → Option Nat} {sv : Nat → Nat} {cl : Nat → Bool} {mk bg dp : Nat} {sh nx : Nat → Nat} {spn : Int} (x v : Int32) (hY : nY ≤ 12) (hb : (inR x (nI nY) && inB v (nI 500) (nI 2000)) = false) : mWi l y_Mo_index (w_Mo_index :: gt) rm_Mo_index V (wM V am th nY ix bu np st sr go ca nw yo ce wo po ne sv cl mk bg dp sh nx spn) [.ref (am 0), .int x, .int v] (nI 0) (wM V am 1 nY ix bu np st sr go ca nw yo ce wo po ne sv cl mk bg dp sh nx spn) 0 0 := by
  intro sz
  refine gMet (V := V) (As := [.ref (am 0), .int x, .int v]) (cc := c_Mo_index) (maxL := 4) (ret := (some .int)) (by decide) rfl (Nat.le_of_ble_eq_true rfl) (fun a U h => ⟨h.1, h.2.2.2.1⟩) ?_
  intro p e s m below meth c E hr hlk hnm hv
  refine g_toW (sz := sz) (w := wM V am th nY ix bu np st sr go ca nw yo ce wo po ne sv cl mk bg dp sh nx spn) hv.2.2.1 hv.2.2.2.2 ?_
  have hA0 : ∀ q : Nat, s.heap.size ≤ q → va_A (wM V am th nY ix bu np st sr go ca nw yo ce wo po ne sv cl mk bg dp sh nx spn) sz q := fun q h => Or.inr (by rw [← hv.2.1]; exact h)
  refine g_aload_n E d_Mo_index_0 rfl 0 rfl ?_
  refine g_aload_n E d_Mo_index_1 rfl 0 rfl ?_
  refine g_iload_n E d_Mo_index_2 rfl 1 rfl ?_
  refine gpVi (As := [.int x]) (rest := [.ref (am 0)]) E gO_w 0 rfl rfl (C_Mo_isYear l x (by omega)) (cs_Mo_78 E rfl rfl ⟨Nat.le_of_ble_eq_true rfl, Nat.le_of_ble_eq_true rfl⟩) rfl rfl (Nat.le_of_ble_eq_true rfl) ⟨Nat.zero_le _, Nat.zero_le _⟩ d_Mo_index_3 ?_
  refine g_bif_eq E 27 d_Mo_index_6 (by decide) (fun h1 => ?_) (fun h1 => ?_)
  · refine g_iconst (v := nI 1) E d_Mo_index_27 (by decide) ?_
    refine gwVi (As := [.int (nI 1)]) (rest := []) (w' := wM V am 1 nY ix bu np st sr go ca nw yo ce wo po ne sv cl mk bg dp sh nx spn) (mc := 0) (ms := 0) E hA0 0 rfl rfl (C_Mo_refuses_1 l) (cs_Mo_85 E rfl rfl ⟨Nat.le_of_ble_eq_true rfl, Nat.le_of_ble_eq_true rfl⟩) rfl rfl (Nat.le_of_ble_eq_true rfl) ⟨Nat.zero_le _, Nat.zero_le _⟩ d_Mo_index_28 ?_
    refine g_nif_eq E 36 d_Mo_index_31 (by decide) (by decide) (fun h2 => absurd h2 (by decide)) (fun _ => ?_)
    refine g_iconst (v := nI 0) E d_Mo_index_34 (by decide) ?_
    exact g_iret E hr hlk d_Mo_index_35 (gq_wi (w1 := fun _ => wM V am 1 nY ix bu np st sr go ca nw yo ce wo po ne sv cl mk bg dp sh nx spn) () (rfl))
  · refine g_iload_n E d_Mo_index_9 rfl 2 rfl ?_
    refine g_i2l E d_Mo_index_10 ?_
    refine g_ldc2 E kk_Mo_81 d_Mo_index_11 ?_
    refine g_topl (show ((500) : Int64) = lN 500 from by decide) ?_
    refine g_ldc2 E kk_Mo_83 d_Mo_index_14 ?_
    refine g_topl (show ((2000) : Int64) = lN 2000 from by decide) ?_
    refine gpSi (As := [.long v.toInt64, .long (lN 500), .long (lN 2000)]) (rest := [.ref (am 0)]) E gO_w (C_Mo_within l v.toInt64 (lN 500) (lN 2000)) (cs_Mo_64 E rfl rfl ⟨Nat.le_of_ble_eq_true rfl, Nat.le_of_ble_eq_true rfl⟩) rfl rfl (Nat.le_of_ble_eq_true rfl) ⟨Nat.zero_le _, Nat.zero_le _⟩ d_Mo_index_17 ?_
    refine g_topi (congrArg bI (inBL_B v (by omega) (by omega))) ?_
    refine g_bif_eq E 27 d_Mo_index_20 (by decide) (fun h3 => ?_) (fun h3 => ?_)
    · refine g_iconst (v := nI 1) E d_Mo_index_27 (by decide) ?_
      refine gwVi (As := [.int (nI 1)]) (rest := []) (w' := wM V am 1 nY ix bu np st sr go ca nw yo ce wo po ne sv cl mk bg dp sh nx spn) (mc := 0) (ms := 0) E hA0 0 rfl rfl (C_Mo_refuses_1 l) (cs_Mo_85 E rfl rfl ⟨Nat.le_of_ble_eq_true rfl, Nat.le_of_ble_eq_true rfl⟩) rfl rfl (Nat.le_of_ble_eq_true rfl) ⟨Nat.zero_le _, Nat.zero_le _⟩ d_Mo_index_28 ?_
      refine g_nif_eq E 36 d_Mo_index_31 (by decide) (by decide) (fun h4 => absurd h4 (by decide)) (fun _ => ?_)
      refine g_iconst (v := nI 0) E d_Mo_index_34 (by decide) ?_
      exact g_iret E hr hlk d_Mo_index_35 (gq_wi (w1 := fun _ => wM V am 1 nY ix bu np st sr go ca nw yo ce wo po ne sv cl mk bg dp sh nx spn) () (rfl))
    · refine g_iconst (v := nI 0) E d_Mo_index_23 (by decide) ?_
      refine g_goto E 28 d_Mo_index_24 (by decide) ?_
      exact absurd hb (by first | (simp [h1, h3]; done) | simp_all)

set_option maxHeartbeats 4000000 in
set_option maxRecDepth 100000 in
theorem Y_Mo_budget (l : Launch) {V : gV} {am : Nat → Nat} {th nY : Nat} {ix bu : Nat → Nat} {np : Nat} {st sr go ca : Nat → Nat} {nw : Nat} {yo ce wo : Nat → Nat} {po ne : Nat → Option Nat} {sv : Nat → Nat} {cl : Nat → Bool} {mk bg dp : Nat} {sh nx : Nat → Nat} {spn : Int} (x v : Int32) (hY : nY ≤ 12) (hb : (inR x (nI nY) && inB v (nI 0) (nI 1000000000)) = false) : mWi l y_Mo_budget (w_Mo_budget :: gt) rm_Mo_budget V (wM V am th nY ix bu np st sr go ca nw yo ce wo po ne sv cl mk bg dp sh nx spn) [.ref (am 0), .int x, .int v] (nI 0) (wM V am 1 nY ix bu np st sr go ca nw yo ce wo po ne sv cl mk bg dp sh nx spn) 0 0 := by
  intro sz
  refine gMet (V := V) (As := [.ref (am 0), .int x, .int v]) (cc := c_Mo_budget) (maxL := 4) (ret := (some .int)) (by decide) rfl (Nat.le_of_ble_eq_true rfl) (fun a U h => ⟨h.1, h.2.2.2.1⟩) ?_
  intro p e s m below meth c E hr hlk hnm hv
  refine g_toW (sz := sz) (w := wM V am th nY ix bu np st sr go ca nw yo ce wo po ne sv cl mk bg dp sh nx spn) hv.2.2.1 hv.2.2.2.2 ?_
  have hA0 : ∀ q : Nat, s.heap.size ≤ q → va_A (wM V am th nY ix bu np st sr go ca nw yo ce wo po ne sv cl mk bg dp sh nx spn) sz q := fun q h => Or.inr (by rw [← hv.2.1]; exact h)
  refine g_aload_n E d_Mo_budget_0 rfl 0 rfl ?_
  refine g_aload_n E d_Mo_budget_1 rfl 0 rfl ?_
  refine g_iload_n E d_Mo_budget_2 rfl 1 rfl ?_
  refine gpVi (As := [.int x]) (rest := [.ref (am 0)]) E gO_w 0 rfl rfl (C_Mo_isYear l x (by omega)) (cs_Mo_78 E rfl rfl ⟨Nat.le_of_ble_eq_true rfl, Nat.le_of_ble_eq_true rfl⟩) rfl rfl (Nat.le_of_ble_eq_true rfl) ⟨Nat.zero_le _, Nat.zero_le _⟩ d_Mo_budget_3 ?_
  refine g_bif_eq E 25 d_Mo_budget_6 (by decide) (fun h1 => ?_) (fun h1 => ?_)
  · refine g_iconst (v := nI 1) E d_Mo_budget_25 (by decide) ?_
    refine gwVi (As := [.int (nI 1)]) (rest := []) (w' := wM V am 1 nY ix bu np st sr go ca nw yo ce wo po ne sv cl mk bg dp sh nx spn) (mc := 0) (ms := 0) E hA0 0 rfl rfl (C_Mo_refuses_1 l) (cs_Mo_85 E rfl rfl ⟨Nat.le_of_ble_eq_true rfl, Nat.le_of_ble_eq_true rfl⟩) rfl rfl (Nat.le_of_ble_eq_true rfl) ⟨Nat.zero_le _, Nat.zero_le _⟩ d_Mo_budget_26 ?_
    refine g_nif_eq E 34 d_Mo_budget_29 (by decide) (by decide) (fun h2 => absurd h2 (by decide)) (fun _ => ?_)
    refine g_iconst (v := nI 0) E d_Mo_budget_32 (by decide) ?_
    exact g_iret E hr hlk d_Mo_budget_33 (gq_wi (w1 := fun _ => wM V am 1 nY ix bu np st sr go ca nw yo ce wo po ne sv cl mk bg dp sh nx spn) () (rfl))
  · refine g_iload_n E d_Mo_budget_9 rfl 2 rfl ?_
    refine g_i2l E d_Mo_budget_10 ?_
    refine g_lconst (v := lN 0) E d_Mo_budget_11 (by decide) ?_
    refine g_ldc2 E kk_Mo_88 d_Mo_budget_12 ?_
    refine g_topl (show ((1000000000) : Int64) = lN 1000000000 from by decide) ?_
    refine gpSi (As := [.long v.toInt64, .long (lN 0), .long (lN 1000000000)]) (rest := [.ref (am 0)]) E gO_w (C_Mo_within l v.toInt64 (lN 0) (lN 1000000000)) (cs_Mo_64 E rfl rfl ⟨Nat.le_of_ble_eq_true rfl, Nat.le_of_ble_eq_true rfl⟩) rfl rfl (Nat.le_of_ble_eq_true rfl) ⟨Nat.zero_le _, Nat.zero_le _⟩ d_Mo_budget_15 ?_
    refine g_topi (congrArg bI (inBL_B v (by omega) (by omega))) ?_
    refine g_bif_eq E 25 d_Mo_budget_18 (by decide) (fun h3 => ?_) (fun h3 => ?_)
    · refine g_iconst (v := nI 1) E d_Mo_budget_25 (by decide) ?_
      refine gwVi (As := [.int (nI 1)]) (rest := []) (w' := wM V am 1 nY ix bu np st sr go ca nw yo ce wo po ne sv cl mk bg dp sh nx spn) (mc := 0) (ms := 0) E hA0 0 rfl rfl (C_Mo_refuses_1 l) (cs_Mo_85 E rfl rfl ⟨Nat.le_of_ble_eq_true rfl, Nat.le_of_ble_eq_true rfl⟩) rfl rfl (Nat.le_of_ble_eq_true rfl) ⟨Nat.zero_le _, Nat.zero_le _⟩ d_Mo_budget_26 ?_
      refine g_nif_eq E 34 d_Mo_budget_29 (by decide) (by decide) (fun h4 => absurd h4 (by decide)) (fun _ => ?_)
      refine g_iconst (v := nI 0) E d_Mo_budget_32 (by decide) ?_
      exact g_iret E hr hlk d_Mo_budget_33 (gq_wi (w1 := fun _ => wM V am 1 nY ix bu np st sr go ca nw yo ce wo po ne sv cl mk bg dp sh nx spn) () (rfl))
    · refine g_iconst (v := nI 0) E d_Mo_budget_21 (by decide) ?_
      refine g_goto E 26 d_Mo_budget_22 (by decide) ?_
      exact absurd hb (by first | (simp [h1, h3]; done) | simp_all)

set_option maxHeartbeats 4000000 in
set_option maxRecDepth 100000 in
theorem Y_Mo_part_1 (l : Launch) {V : gV} {am : Nat → Nat} {th nY : Nat} {ix bu : Nat → Nat} {np : Nat} {st sr go ca : Nat → Nat} {nw : Nat} {yo ce wo : Nat → Nat} {po ne : Nat → Option Nat} {sv : Nat → Nat} {cl : Nat → Bool} {mk bg dp : Nat} {sh nx : Nat → Nat} {spn : Int} (k r : Int32) (hb : inB k (nI 2) (nI 4) = false) : mWi l y_Mo_part (w_Mo_part :: gt) rm_Mo_part V (wM V am th nY ix bu np st sr go ca nw yo ce wo po ne sv cl mk bg dp sh nx spn) [.ref (am 0), .int k, .int r] (nI 0) (wM V am 1 nY ix bu np st sr go ca nw yo ce wo po ne sv cl mk bg dp sh nx spn) 0 0 := by
  intro sz
  refine gMet (V := V) (As := [.ref (am 0), .int k, .int r]) (cc := c_Mo_part) (maxL := 4) (ret := (some .int)) (by decide) rfl (Nat.le_of_ble_eq_true rfl) (fun a U h => ⟨h.1, h.2.2.2.1⟩) ?_
  intro p e s m below meth c E hr hlk hnm hv
  refine g_toW (sz := sz) (w := wM V am th nY ix bu np st sr go ca nw yo ce wo po ne sv cl mk bg dp sh nx spn) hv.2.2.1 hv.2.2.2.2 ?_
  have hA0 : ∀ q : Nat, s.heap.size ≤ q → va_A (wM V am th nY ix bu np st sr go ca nw yo ce wo po ne sv cl mk bg dp sh nx spn) sz q := fun q h => Or.inr (by rw [← hv.2.1]; exact h)
  refine g_iload_n E d_Mo_part_0 rfl 1 rfl ?_
  refine g_i2l E d_Mo_part_1 ?_
  refine g_ldc2 E kk_Mo_90 d_Mo_part_2 ?_
  refine g_topl (show ((2) : Int64) = lN 2 from by decide) ?_
  refine g_ldc2 E kk_Mo_92 d_Mo_part_5 ?_
  refine g_topl (show ((4) : Int64) = lN 4 from by decide) ?_
  refine gpSi (As := [.long k.toInt64, .long (lN 2), .long (lN 4)]) (rest := []) E gO_w (C_Mo_within l k.toInt64 (lN 2) (lN 4)) (cs_Mo_64 E rfl rfl ⟨Nat.le_of_ble_eq_true rfl, Nat.le_of_ble_eq_true rfl⟩) rfl rfl (Nat.le_of_ble_eq_true rfl) ⟨Nat.zero_le _, Nat.zero_le _⟩ d_Mo_part_8 ?_
  refine g_topi (congrArg bI (inBL_B k (by omega) (by omega))) ?_
  refine g_topi (show bI _ = nI 0 from by rw [hb]; rfl) ?_
  refine g_nif_eq E 31 d_Mo_part_11 (by decide) (by decide) (fun _ => ?_) (fun h1 => absurd h1 (by decide))
  refine g_iconst (v := nI 0) E d_Mo_part_31 (by decide) ?_
  refine g_istore_n (lv' := [(3, .int (nI 0)), (0, .ref (am 0)), (1, .int k), (2, .int r)]) E d_Mo_part_32 rfl (by decide) rfl ?_
  refine g_aload_n E d_Mo_part_33 rfl 1 rfl ?_
  refine g_iload_n E d_Mo_part_34 rfl 0 rfl ?_
  refine g_nif_ne E 42 d_Mo_part_35 (by decide) (by decide) (fun h2 => absurd h2 (by decide)) (fun _ => ?_)
  refine g_iconst (v := nI 1) E d_Mo_part_38 (by decide) ?_
  refine g_goto E 56 d_Mo_part_39 (by decide) ?_
  refine gwVi (As := [.int (nI 1)]) (rest := []) (w' := wM V am 1 nY ix bu np st sr go ca nw yo ce wo po ne sv cl mk bg dp sh nx spn) (mc := 0) (ms := 0) E hA0 0 rfl rfl (C_Mo_refuses_1 l) (cs_Mo_85 E rfl rfl ⟨Nat.le_of_ble_eq_true rfl, Nat.le_of_ble_eq_true rfl⟩) rfl rfl (Nat.le_of_ble_eq_true rfl) ⟨Nat.zero_le _, Nat.zero_le _⟩ d_Mo_part_56 ?_
  refine g_nif_eq E 64 d_Mo_part_59 (by decide) (by decide) (fun h3 => absurd h3 (by decide)) (fun _ => ?_)
  refine g_iconst (v := nI 0) E d_Mo_part_62 (by decide) ?_
  exact g_iret E hr hlk d_Mo_part_63 (gq_wi (w1 := fun _ => wM V am 1 nY ix bu np st sr go ca nw yo ce wo po ne sv cl mk bg dp sh nx spn) () (rfl))

set_option maxHeartbeats 4000000 in
set_option maxRecDepth 100000 in
theorem Y_Mo_part_2 (l : Launch) {V : gV} {am : Nat → Nat} {th nY : Nat} {ix bu : Nat → Nat} {np : Nat} {st sr go ca : Nat → Nat} {nw : Nat} {yo ce wo : Nat → Nat} {po ne : Nat → Option Nat} {sv : Nat → Nat} {cl : Nat → Bool} {mk bg dp : Nat} {sh nx : Nat → Nat} {spn : Int} (k : Nat) (r : Int32) (h1 : 2 ≤ k) (h2 : k ≤ 4) (hb : inB r (nI 0) (nI (k - 1)) = false) : mWi l y_Mo_part (w_Mo_part :: gt) rm_Mo_part V (wM V am th nY ix bu np st sr go ca nw yo ce wo po ne sv cl mk bg dp sh nx spn) [.ref (am 0), .int (nI k), .int r] (nI 0) (wM V am 1 nY ix bu np st sr go ca nw yo ce wo po ne sv cl mk bg dp sh nx spn) 0 0 := by
  intro sz
  refine gMet (V := V) (As := [.ref (am 0), .int (nI k), .int r]) (cc := c_Mo_part) (maxL := 4) (ret := (some .int)) (by decide) rfl (Nat.le_of_ble_eq_true rfl) (fun a U h => ⟨h.1, h.2.2.2.1⟩) ?_
  intro p e s m below meth c E hr hlk hnm hv
  refine g_toW (sz := sz) (w := wM V am th nY ix bu np st sr go ca nw yo ce wo po ne sv cl mk bg dp sh nx spn) hv.2.2.1 hv.2.2.2.2 ?_
  have hA0 : ∀ q : Nat, s.heap.size ≤ q → va_A (wM V am th nY ix bu np st sr go ca nw yo ce wo po ne sv cl mk bg dp sh nx spn) sz q := fun q h => Or.inr (by rw [← hv.2.1]; exact h)
  refine g_iload_n E d_Mo_part_0 rfl 1 rfl ?_
  refine g_i2l E d_Mo_part_1 ?_
  refine g_topl (nI_l (by omega)) ?_
  refine g_ldc2 E kk_Mo_90 d_Mo_part_2 ?_
  refine g_topl (show ((2) : Int64) = lN 2 from by decide) ?_
  refine g_ldc2 E kk_Mo_92 d_Mo_part_5 ?_
  refine g_topl (show ((4) : Int64) = lN 4 from by decide) ?_
  refine gpSi (As := [.long (lN k), .long (lN 2), .long (lN 4)]) (rest := []) E gO_w (C_Mo_within l (lN k) (lN 2) (lN 4)) (cs_Mo_64 E rfl rfl ⟨Nat.le_of_ble_eq_true rfl, Nat.le_of_ble_eq_true rfl⟩) rfl rfl (Nat.le_of_ble_eq_true rfl) ⟨Nat.zero_le _, Nat.zero_le _⟩ d_Mo_part_8 ?_
  refine g_topi (congrArg bI (inBL_N (by omega) (by omega) (by omega))) ?_
  refine g_topi (show bI _ = nI 1 from by rw [inB_y (by omega) (by omega) (by omega)]; rfl) ?_
  refine g_nif_eq E 31 d_Mo_part_11 (by decide) (by decide) (fun h1 => absurd h1 (by decide)) (fun _ => ?_)
  refine g_iload_n E d_Mo_part_14 rfl 2 rfl ?_
  refine g_i2l E d_Mo_part_15 ?_
  refine g_lconst (v := lN 0) E d_Mo_part_16 (by decide) ?_
  refine g_iload_n E d_Mo_part_17 rfl 1 rfl ?_
  refine g_i2l E d_Mo_part_18 ?_
  refine g_topl (nI_l (by omega)) ?_
  refine g_lconst (v := lN 1) E d_Mo_part_19 (by decide) ?_
  refine g_lsub E d_Mo_part_20 ?_
  refine g_topl (lN_sub (by omega)) ?_
  refine gpSi (As := [.long r.toInt64, .long (lN 0), .long (lN (k - 1))]) (rest := []) E gO_w (C_Mo_within l r.toInt64 (lN 0) (lN (k - 1))) (cs_Mo_64 E rfl rfl ⟨Nat.le_of_ble_eq_true rfl, Nat.le_of_ble_eq_true rfl⟩) rfl rfl (Nat.le_of_ble_eq_true rfl) ⟨Nat.zero_le _, Nat.zero_le _⟩ d_Mo_part_21 ?_
  refine g_topi (congrArg bI (inBL_B r (by omega) (by omega))) ?_
  refine g_topi (show bI _ = nI 0 from by rw [hb]; rfl) ?_
  refine g_nif_eq E 31 d_Mo_part_24 (by decide) (by decide) (fun _ => ?_) (fun h2 => absurd h2 (by decide))
  refine g_iconst (v := nI 0) E d_Mo_part_31 (by decide) ?_
  refine g_istore_n (lv' := [(3, .int (nI 0)), (0, .ref (am 0)), (1, .int (nI k)), (2, .int r)]) E d_Mo_part_32 rfl (by decide) rfl ?_
  refine g_aload_n E d_Mo_part_33 rfl 1 rfl ?_
  refine g_iload_n E d_Mo_part_34 rfl 0 rfl ?_
  refine g_nif_ne E 42 d_Mo_part_35 (by decide) (by decide) (fun h3 => absurd h3 (by decide)) (fun _ => ?_)
  refine g_iconst (v := nI 1) E d_Mo_part_38 (by decide) ?_
  refine g_goto E 56 d_Mo_part_39 (by decide) ?_
  refine gwVi (As := [.int (nI 1)]) (rest := []) (w' := wM V am 1 nY ix bu np st sr go ca nw yo ce wo po ne sv cl mk bg dp sh nx spn) (mc := 0) (ms := 0) E hA0 0 rfl rfl (C_Mo_refuses_1 l) (cs_Mo_85 E rfl rfl ⟨Nat.le_of_ble_eq_true rfl, Nat.le_of_ble_eq_true rfl⟩) rfl rfl (Nat.le_of_ble_eq_true rfl) ⟨Nat.zero_le _, Nat.zero_le _⟩ d_Mo_part_56 ?_
  refine g_nif_eq E 64 d_Mo_part_59 (by decide) (by decide) (fun h4 => absurd h4 (by decide)) (fun _ => ?_)
  refine g_iconst (v := nI 0) E d_Mo_part_62 (by decide) ?_
  exact g_iret E hr hlk d_Mo_part_63 (gq_wi (w1 := fun _ => wM V am 1 nY ix bu np st sr go ca nw yo ce wo po ne sv cl mk bg dp sh nx spn) () (rfl))

set_option maxHeartbeats 4000000 in
set_option maxRecDepth 100000 in
theorem Y_Mo_part_3 (l : Launch) {V : gV} {am : Nat → Nat} {th nY : Nat} {ix bu : Nat → Nat} {np : Nat} {st sr go ca : Nat → Nat} {nw : Nat} {yo ce wo : Nat → Nat} {po ne : Nat → Option Nat} {sv : Nat → Nat} {cl : Nat → Bool} {mk bg dp : Nat} {sh nx : Nat → Nat} {spn : Int} (k r : Nat) (h1 : 2 ≤ k) (h2 : k ≤ 4) (h3 : r < k) (hnp : np = 12) : mWi l y_Mo_part (w_Mo_part :: gt) rm_Mo_part V (wM V am th nY ix bu np st sr go ca nw yo ce wo po ne sv cl mk bg dp sh nx spn) [.ref (am 0), .int (nI k), .int (nI r)] (nI 0) (wM V am 2 nY ix bu np st sr go ca nw yo ce wo po ne sv cl mk bg dp sh nx spn) 0 0 := by
  intro sz
  refine gMet (V := V) (As := [.ref (am 0), .int (nI k), .int (nI r)]) (cc := c_Mo_part) (maxL := 4) (ret := (some .int)) (by decide) rfl (Nat.le_of_ble_eq_true rfl) (fun a U h => ⟨h.1, h.2.2.2.1⟩) ?_
  intro p e s m below meth c E hr hlk hnm hv
  refine g_toW (sz := sz) (w := wM V am th nY ix bu np st sr go ca nw yo ce wo po ne sv cl mk bg dp sh nx spn) hv.2.2.1 hv.2.2.2.2 ?_
  have hA0 : ∀ q : Nat, s.heap.size ≤ q → va_A (wM V am th nY ix bu np st sr go ca nw yo ce wo po ne sv cl mk bg dp sh nx spn) sz q := fun q h => Or.inr (by rw [← hv.2.1]; exact h)
  refine g_iload_n E d_Mo_part_0 rfl 1 rfl ?_
  refine g_i2l E d_Mo_part_1 ?_
  refine g_topl (nI_l (by omega)) ?_
  refine g_ldc2 E kk_Mo_90 d_Mo_part_2 ?_
  refine g_topl (show ((2) : Int64) = lN 2 from by decide) ?_
  refine g_ldc2 E kk_Mo_92 d_Mo_part_5 ?_
  refine g_topl (show ((4) : Int64) = lN 4 from by decide) ?_
  refine gpSi (As := [.long (lN k), .long (lN 2), .long (lN 4)]) (rest := []) E gO_w (C_Mo_within l (lN k) (lN 2) (lN 4)) (cs_Mo_64 E rfl rfl ⟨Nat.le_of_ble_eq_true rfl, Nat.le_of_ble_eq_true rfl⟩) rfl rfl (Nat.le_of_ble_eq_true rfl) ⟨Nat.zero_le _, Nat.zero_le _⟩ d_Mo_part_8 ?_
  refine g_topi (congrArg bI (inBL_N (by omega) (by omega) (by omega))) ?_
  refine g_topi (show bI _ = nI 1 from by rw [inB_y (by omega) (by omega) (by omega)]; rfl) ?_
  refine g_nif_eq E 31 d_Mo_part_11 (by decide) (by decide) (fun h1 => absurd h1 (by decide)) (fun _ => ?_)
  refine g_iload_n E d_Mo_part_14 rfl 2 rfl ?_
  refine g_i2l E d_Mo_part_15 ?_
  refine g_topl (nI_l (by omega)) ?_
  refine g_lconst (v := lN 0) E d_Mo_part_16 (by decide) ?_
  refine g_iload_n E d_Mo_part_17 rfl 1 rfl ?_
  refine g_i2l E d_Mo_part_18 ?_
  refine g_topl (nI_l (by omega)) ?_
  refine g_lconst (v := lN 1) E d_Mo_part_19 (by decide) ?_
  refine g_lsub E d_Mo_part_20 ?_
  refine g_topl (lN_sub (by omega)) ?_
  refine gpSi (As := [.long (lN r), .long (lN 0), .long (lN (k - 1))]) (rest := []) E gO_w (C_Mo_within l (lN r) (lN 0) (lN (k - 1))) (cs_Mo_64 E rfl rfl ⟨Nat.le_of_ble_eq_true rfl, Nat.le_of_ble_eq_true rfl⟩) rfl rfl (Nat.le_of_ble_eq_true rfl) ⟨Nat.zero_le _, Nat.zero_le _⟩ d_Mo_part_21 ?_
  refine g_topi (congrArg bI (inBL_N (by omega) (by omega) (by omega))) ?_
  refine g_topi (show bI _ = nI 1 from by rw [inB_y (by omega) (by omega) (by omega)]; rfl) ?_
  refine g_nif_eq E 31 d_Mo_part_24 (by decide) (by decide) (fun h2 => absurd h2 (by decide)) (fun _ => ?_)
  refine g_iconst (v := nI 1) E d_Mo_part_27 (by decide) ?_
  refine g_goto E 32 d_Mo_part_28 (by decide) ?_
  refine g_istore_n (lv' := [(3, .int (nI 1)), (0, .ref (am 0)), (1, .int (nI k)), (2, .int (nI r))]) E d_Mo_part_32 rfl (by decide) rfl ?_
  refine g_aload_n E d_Mo_part_33 rfl 1 rfl ?_
  refine g_iload_n E d_Mo_part_34 rfl 0 rfl ?_
  refine g_nif_ne E 42 d_Mo_part_35 (by decide) (by decide) (fun _ => ?_) (fun h3 => absurd h3 (by decide))
  refine g_aload_n E d_Mo_part_42 rfl 1 rfl ?_
  refine gf_Mo_68 E gO_w 0 rfl rfl d_Mo_part_43 ?_
  refine g_bipush (v := nI 12) E d_Mo_part_46 (by decide) ?_
  refine g_ncmp_ne E 55 d_Mo_part_48 (by decide) (by omega) (by omega) (fun h4 => ?_) (fun h4 => ?_)
  · exact absurd hnp h4
  · refine g_iconst (v := nI 2) E d_Mo_part_51 (by decide) ?_
    refine g_goto E 56 d_Mo_part_52 (by decide) ?_
    refine gwVi (As := [.int (nI 2)]) (rest := []) (w' := wM V am 2 nY ix bu np st sr go ca nw yo ce wo po ne sv cl mk bg dp sh nx spn) (mc := 0) (ms := 0) E hA0 0 rfl rfl (C_Mo_refuses_2 l) (cs_Mo_85 E rfl rfl ⟨Nat.le_of_ble_eq_true rfl, Nat.le_of_ble_eq_true rfl⟩) rfl rfl (Nat.le_of_ble_eq_true rfl) ⟨Nat.zero_le _, Nat.zero_le _⟩ d_Mo_part_56 ?_
    refine g_nif_eq E 64 d_Mo_part_59 (by decide) (by decide) (fun h5 => absurd h5 (by decide)) (fun _ => ?_)
    refine g_iconst (v := nI 0) E d_Mo_part_62 (by decide) ?_
    exact g_iret E hr hlk d_Mo_part_63 (gq_wi (w1 := fun _ => wM V am 2 nY ix bu np st sr go ca nw yo ce wo po ne sv cl mk bg dp sh nx spn) () (rfl))

set_option maxHeartbeats 4000000 in
set_option maxRecDepth 100000 in
theorem Y_Mo_moves_1 (l : Launch) {V : gV} {am : Nat → Nat} {th nY : Nat} {ix bu : Nat → Nat} {np : Nat} {st sr go ca : Nat → Nat} {nw : Nat} {yo ce wo : Nat → Nat} {po ne : Nat → Option Nat} {sv : Nat → Nat} {cl : Nat → Bool} {mk bg dp : Nat} {sh nx : Nat → Nat} {spn : Int} (x a b v : Int32) (hnp : np ≤ 12) (hst : ∀ i, st i ≤ 4) (hb : (hasSt np st x a && hasSt np st x b && !decide (a = b)) = false) : mWi l y_Mo_moves (w_Mo_moves :: gt) rm_Mo_moves V (wM V am th nY ix bu np st sr go ca nw yo ce wo po ne sv cl mk bg dp sh nx spn) [.ref (am 0), .int x, .int a, .int b, .int v] (nI 0) (wM V am 1 nY ix bu np st sr go ca nw yo ce wo po ne sv cl mk bg dp sh nx spn) 0 0 := by
  intro sz
  refine gMet (V := V) (As := [.ref (am 0), .int x, .int a, .int b, .int v]) (cc := c_Mo_moves) (maxL := 7) (ret := (some .int)) (by decide) rfl (Nat.le_of_ble_eq_true rfl) (fun a U h => ⟨h.1, h.2.2.2.1⟩) ?_
  intro p e s m below meth c E hr hlk hnm hv
  refine g_toW (sz := sz) (w := wM V am th nY ix bu np st sr go ca nw yo ce wo po ne sv cl mk bg dp sh nx spn) hv.2.2.1 hv.2.2.2.2 ?_
  have hA0 : ∀ q : Nat, s.heap.size ≤ q → va_A (wM V am th nY ix bu np st sr go ca nw yo ce wo po ne sv cl mk bg dp sh nx spn) sz q := fun q h => Or.inr (by rw [← hv.2.1]; exact h)
  refine g_aload_n E d_Mo_moves_0 rfl 0 rfl ?_
  refine g_iload_n E d_Mo_moves_1 rfl 1 rfl ?_
  refine g_iload_n E d_Mo_moves_2 rfl 2 rfl ?_
  refine gpVi (As := [.int x, .int a]) (rest := []) E gO_w 0 rfl rfl (C_Mo_isState l x a (by omega) hst) (cs_Mo_94 E rfl rfl ⟨Nat.le_of_ble_eq_true rfl, Nat.le_of_ble_eq_true rfl⟩) rfl rfl (Nat.le_of_ble_eq_true rfl) ⟨Nat.zero_le _, Nat.zero_le _⟩ d_Mo_moves_3 ?_
  refine g_bif_eq E 40 d_Mo_moves_6 (by decide) (fun h1 => ?_) (fun h1 => ?_)
  · refine g_iconst (v := nI 0) E d_Mo_moves_40 (by decide) ?_
    refine g_istore (lv' := [(5, .int (nI 0)), (0, .ref (am 0)), (1, .int x), (2, .int a), (3, .int b), (4, .int v)]) E d_Mo_moves_41 (by decide) rfl ?_
    refine g_iload E d_Mo_moves_43 0 rfl ?_
    refine g_nif_eq E 66 d_Mo_moves_45 (by decide) (by decide) (fun _ => ?_) (fun h2 => absurd h2 (by decide))
    refine g_iconst (v := nI 0) E d_Mo_moves_66 (by decide) ?_
    refine g_istore (lv' := [(6, .int (nI 0)), (5, .int (nI 0)), (0, .ref (am 0)), (1, .int x), (2, .int a), (3, .int b), (4, .int v)]) E d_Mo_moves_67 (by decide) rfl ?_
    refine g_aload_n E d_Mo_moves_69 rfl 2 rfl ?_
    refine g_iload E d_Mo_moves_70 1 rfl ?_
    refine g_nif_eq E 92 d_Mo_moves_72 (by decide) (by decide) (fun _ => ?_) (fun h3 => absurd h3 (by decide))
    refine g_iconst (v := nI 1) E d_Mo_moves_92 (by decide) ?_
    refine g_goto E 97 d_Mo_moves_93 (by decide) ?_
    refine gwVi (As := [.int (nI 1)]) (rest := []) (w' := wM V am 1 nY ix bu np st sr go ca nw yo ce wo po ne sv cl mk bg dp sh nx spn) (mc := 0) (ms := 0) E hA0 0 rfl rfl (C_Mo_refuses_1 l) (cs_Mo_85 E rfl rfl ⟨Nat.le_of_ble_eq_true rfl, Nat.le_of_ble_eq_true rfl⟩) rfl rfl (Nat.le_of_ble_eq_true rfl) ⟨Nat.zero_le _, Nat.zero_le _⟩ d_Mo_moves_97 ?_
    refine g_nif_eq E 105 d_Mo_moves_100 (by decide) (by decide) (fun h4 => absurd h4 (by decide)) (fun _ => ?_)
    refine g_iconst (v := nI 0) E d_Mo_moves_103 (by decide) ?_
    exact g_iret E hr hlk d_Mo_moves_104 (gq_wi (w1 := fun _ => wM V am 1 nY ix bu np st sr go ca nw yo ce wo po ne sv cl mk bg dp sh nx spn) () (rfl))
  · refine g_aload_n E d_Mo_moves_9 rfl 0 rfl ?_
    refine g_iload_n E d_Mo_moves_10 rfl 1 rfl ?_
    refine g_iload_n E d_Mo_moves_11 rfl 3 rfl ?_
    refine gpVi (As := [.int x, .int b]) (rest := []) E gO_w 0 rfl rfl (C_Mo_isState l x b (by omega) hst) (cs_Mo_94 E rfl rfl ⟨Nat.le_of_ble_eq_true rfl, Nat.le_of_ble_eq_true rfl⟩) rfl rfl (Nat.le_of_ble_eq_true rfl) ⟨Nat.zero_le _, Nat.zero_le _⟩ d_Mo_moves_12 ?_
    refine g_bif_eq E 40 d_Mo_moves_15 (by decide) (fun h5 => ?_) (fun h5 => ?_)
    · refine g_iconst (v := nI 0) E d_Mo_moves_40 (by decide) ?_
      refine g_istore (lv' := [(5, .int (nI 0)), (0, .ref (am 0)), (1, .int x), (2, .int a), (3, .int b), (4, .int v)]) E d_Mo_moves_41 (by decide) rfl ?_
      refine g_iload E d_Mo_moves_43 0 rfl ?_
      refine g_nif_eq E 66 d_Mo_moves_45 (by decide) (by decide) (fun _ => ?_) (fun h6 => absurd h6 (by decide))
      refine g_iconst (v := nI 0) E d_Mo_moves_66 (by decide) ?_
      refine g_istore (lv' := [(6, .int (nI 0)), (5, .int (nI 0)), (0, .ref (am 0)), (1, .int x), (2, .int a), (3, .int b), (4, .int v)]) E d_Mo_moves_67 (by decide) rfl ?_
      refine g_aload_n E d_Mo_moves_69 rfl 2 rfl ?_
      refine g_iload E d_Mo_moves_70 1 rfl ?_
      refine g_nif_eq E 92 d_Mo_moves_72 (by decide) (by decide) (fun _ => ?_) (fun h7 => absurd h7 (by decide))
      refine g_iconst (v := nI 1) E d_Mo_moves_92 (by decide) ?_
      refine g_goto E 97 d_Mo_moves_93 (by decide) ?_
      refine gwVi (As := [.int (nI 1)]) (rest := []) (w' := wM V am 1 nY ix bu np st sr go ca nw yo ce wo po ne sv cl mk bg dp sh nx spn) (mc := 0) (ms := 0) E hA0 0 rfl rfl (C_Mo_refuses_1 l) (cs_Mo_85 E rfl rfl ⟨Nat.le_of_ble_eq_true rfl, Nat.le_of_ble_eq_true rfl⟩) rfl rfl (Nat.le_of_ble_eq_true rfl) ⟨Nat.zero_le _, Nat.zero_le _⟩ d_Mo_moves_97 ?_
      refine g_nif_eq E 105 d_Mo_moves_100 (by decide) (by decide) (fun h8 => absurd h8 (by decide)) (fun _ => ?_)
      refine g_iconst (v := nI 0) E d_Mo_moves_103 (by decide) ?_
      exact g_iret E hr hlk d_Mo_moves_104 (gq_wi (w1 := fun _ => wM V am 1 nY ix bu np st sr go ca nw yo ce wo po ne sv cl mk bg dp sh nx spn) () (rfl))
    · refine g_iload_n E d_Mo_moves_18 rfl 2 rfl ?_
      refine g_iload_n E d_Mo_moves_19 rfl 3 rfl ?_
      refine g_icmp_eq E 40 d_Mo_moves_20 (by decide) (fun h9 => ?_) (fun h9 => ?_)
      · refine g_iconst (v := nI 0) E d_Mo_moves_40 (by decide) ?_
        refine g_istore (lv' := [(5, .int (nI 0)), (0, .ref (am 0)), (1, .int x), (2, .int a), (3, .int b), (4, .int v)]) E d_Mo_moves_41 (by decide) rfl ?_
        refine g_iload E d_Mo_moves_43 0 rfl ?_
        refine g_nif_eq E 66 d_Mo_moves_45 (by decide) (by decide) (fun _ => ?_) (fun h10 => absurd h10 (by decide))
        refine g_iconst (v := nI 0) E d_Mo_moves_66 (by decide) ?_
        refine g_istore (lv' := [(6, .int (nI 0)), (5, .int (nI 0)), (0, .ref (am 0)), (1, .int x), (2, .int a), (3, .int b), (4, .int v)]) E d_Mo_moves_67 (by decide) rfl ?_
        refine g_aload_n E d_Mo_moves_69 rfl 2 rfl ?_
        refine g_iload E d_Mo_moves_70 1 rfl ?_
        refine g_nif_eq E 92 d_Mo_moves_72 (by decide) (by decide) (fun _ => ?_) (fun h11 => absurd h11 (by decide))
        refine g_iconst (v := nI 1) E d_Mo_moves_92 (by decide) ?_
        refine g_goto E 97 d_Mo_moves_93 (by decide) ?_
        refine gwVi (As := [.int (nI 1)]) (rest := []) (w' := wM V am 1 nY ix bu np st sr go ca nw yo ce wo po ne sv cl mk bg dp sh nx spn) (mc := 0) (ms := 0) E hA0 0 rfl rfl (C_Mo_refuses_1 l) (cs_Mo_85 E rfl rfl ⟨Nat.le_of_ble_eq_true rfl, Nat.le_of_ble_eq_true rfl⟩) rfl rfl (Nat.le_of_ble_eq_true rfl) ⟨Nat.zero_le _, Nat.zero_le _⟩ d_Mo_moves_97 ?_
        refine g_nif_eq E 105 d_Mo_moves_100 (by decide) (by decide) (fun h12 => absurd h12 (by decide)) (fun _ => ?_)
        refine g_iconst (v := nI 0) E d_Mo_moves_103 (by decide) ?_
        exact g_iret E hr hlk d_Mo_moves_104 (gq_wi (w1 := fun _ => wM V am 1 nY ix bu np st sr go ca nw yo ce wo po ne sv cl mk bg dp sh nx spn) () (rfl))
      · refine g_iload E d_Mo_moves_23 4 rfl ?_
        refine g_i2l E d_Mo_moves_25 ?_
        refine g_lconst (v := lN 0) E d_Mo_moves_26 (by decide) ?_
        refine g_ldc2 E kk_Mo_98 d_Mo_moves_27 ?_
        refine g_topl (show ((16) : Int64) = lN 16 from by decide) ?_
        refine gpSi (As := [.long v.toInt64, .long (lN 0), .long (lN 16)]) (rest := []) E gO_w (C_Mo_within l v.toInt64 (lN 0) (lN 16)) (cs_Mo_64 E rfl rfl ⟨Nat.le_of_ble_eq_true rfl, Nat.le_of_ble_eq_true rfl⟩) rfl rfl (Nat.le_of_ble_eq_true rfl) ⟨Nat.zero_le _, Nat.zero_le _⟩ d_Mo_moves_30 ?_
        refine g_topi (congrArg bI (inBL_B v (by omega) (by omega))) ?_
        refine g_bif_eq E 40 d_Mo_moves_33 (by decide) (fun h13 => ?_) (fun h13 => ?_)
        · exact absurd hb (by first | (simp [h1, h5, h9, h13]; done) | simp_all)
        · exact absurd hb (by first | (simp [h1, h5, h9, h13]; done) | simp_all)

set_option maxHeartbeats 4000000 in
set_option maxRecDepth 100000 in
theorem Y_Mo_moves_2 (l : Launch) {V : gV} {am : Nat → Nat} {th nY : Nat} {ix bu : Nat → Nat} {np : Nat} {st sr go ca : Nat → Nat} {nw : Nat} {yo ce wo : Nat → Nat} {po ne : Nat → Option Nat} {sv : Nat → Nat} {cl : Nat → Bool} {mk bg dp : Nat} {sh nx : Nat → Nat} {spn : Int} (i a b : Nat) (v : Int32) (hnp : np ≤ 12) (hst : ∀ i, st i ≤ 4) (hi : i < np) (ha : a < st i) (hbs : b < st i) (hab : a ≠ b) (hb : inB v (nI 0) (nI 16) = false) : mWi l y_Mo_moves (w_Mo_moves :: gt) rm_Mo_moves V (wM V am th nY ix bu np st sr go ca nw yo ce wo po ne sv cl mk bg dp sh nx spn) [.ref (am 0), .int (nI i), .int (nI a), .int (nI b), .int v] (nI 0) (wM V am 1 nY ix bu np st sr go ca nw yo ce wo po ne sv cl mk bg dp sh nx spn) 0 0 := by
  intro sz
  refine gMet (V := V) (As := [.ref (am 0), .int (nI i), .int (nI a), .int (nI b), .int v]) (cc := c_Mo_moves) (maxL := 7) (ret := (some .int)) (by decide) rfl (Nat.le_of_ble_eq_true rfl) (fun a U h => ⟨h.1, h.2.2.2.1⟩) ?_
  intro p e s m below meth c E hr hlk hnm hv
  refine g_toW (sz := sz) (w := wM V am th nY ix bu np st sr go ca nw yo ce wo po ne sv cl mk bg dp sh nx spn) hv.2.2.1 hv.2.2.2.2 ?_
  have hA0 : ∀ q : Nat, s.heap.size ≤ q → va_A (wM V am th nY ix bu np st sr go ca nw yo ce wo po ne sv cl mk bg dp sh nx spn) sz q := fun q h => Or.inr (by rw [← hv.2.1]; exact h)
  have hs := hst i
  refine g_aload_n E d_Mo_moves_0 rfl 0 rfl ?_
  refine g_iload_n E d_Mo_moves_1 rfl 1 rfl ?_
  refine g_iload_n E d_Mo_moves_2 rfl 2 rfl ?_
  refine gpVi (As := [.int (nI i), .int (nI a)]) (rest := []) E gO_w 0 rfl rfl (C_Mo_isState l (nI i) (nI a) (by omega) hst) (cs_Mo_94 E rfl rfl ⟨Nat.le_of_ble_eq_true rfl, Nat.le_of_ble_eq_true rfl⟩) rfl rfl (Nat.le_of_ble_eq_true rfl) ⟨Nat.zero_le _, Nat.zero_le _⟩ d_Mo_moves_3 ?_
  refine g_topi (show bI _ = nI 1 from by rw [hasSt_y (by omega) (by omega) (by omega) (by omega)]; rfl) ?_
  refine g_nif_eq E 40 d_Mo_moves_6 (by decide) (by decide) (fun h1 => absurd h1 (by decide)) (fun _ => ?_)
  refine g_aload_n E d_Mo_moves_9 rfl 0 rfl ?_
  refine g_iload_n E d_Mo_moves_10 rfl 1 rfl ?_
  refine g_iload_n E d_Mo_moves_11 rfl 3 rfl ?_
  refine gpVi (As := [.int (nI i), .int (nI b)]) (rest := []) E gO_w 0 rfl rfl (C_Mo_isState l (nI i) (nI b) (by omega) hst) (cs_Mo_94 E rfl rfl ⟨Nat.le_of_ble_eq_true rfl, Nat.le_of_ble_eq_true rfl⟩) rfl rfl (Nat.le_of_ble_eq_true rfl) ⟨Nat.zero_le _, Nat.zero_le _⟩ d_Mo_moves_12 ?_
  refine g_topi (show bI _ = nI 1 from by rw [hasSt_y (by omega) (by omega) (by omega) (by omega)]; rfl) ?_
  refine g_nif_eq E 40 d_Mo_moves_15 (by decide) (by decide) (fun h2 => absurd h2 (by decide)) (fun _ => ?_)
  refine g_iload_n E d_Mo_moves_18 rfl 2 rfl ?_
  refine g_iload_n E d_Mo_moves_19 rfl 3 rfl ?_
  refine g_ncmp_eq E 40 d_Mo_moves_20 (by decide) (by omega) (by omega) (fun h3 => ?_) (fun h3 => ?_)
  · exact absurd h3 (by omega)
  · refine g_iload E d_Mo_moves_23 4 rfl ?_
    refine g_i2l E d_Mo_moves_25 ?_
    refine g_lconst (v := lN 0) E d_Mo_moves_26 (by decide) ?_
    refine g_ldc2 E kk_Mo_98 d_Mo_moves_27 ?_
    refine g_topl (show ((16) : Int64) = lN 16 from by decide) ?_
    refine gpSi (As := [.long v.toInt64, .long (lN 0), .long (lN 16)]) (rest := []) E gO_w (C_Mo_within l v.toInt64 (lN 0) (lN 16)) (cs_Mo_64 E rfl rfl ⟨Nat.le_of_ble_eq_true rfl, Nat.le_of_ble_eq_true rfl⟩) rfl rfl (Nat.le_of_ble_eq_true rfl) ⟨Nat.zero_le _, Nat.zero_le _⟩ d_Mo_moves_30 ?_
    refine g_topi (congrArg bI (inBL_B v (by omega) (by omega))) ?_
    refine g_topi (show bI _ = nI 0 from by rw [hb]; rfl) ?_
    refine g_nif_eq E 40 d_Mo_moves_33 (by decide) (by decide) (fun _ => ?_) (fun h4 => absurd h4 (by decide))
    refine g_iconst (v := nI 0) E d_Mo_moves_40 (by decide) ?_
    refine g_istore (lv' := [(5, .int (nI 0)), (0, .ref (am 0)), (1, .int (nI i)), (2, .int (nI a)), (3, .int (nI b)), (4, .int v)]) E d_Mo_moves_41 (by decide) rfl ?_
    refine g_iload E d_Mo_moves_43 0 rfl ?_
    refine g_nif_eq E 66 d_Mo_moves_45 (by decide) (by decide) (fun _ => ?_) (fun h5 => absurd h5 (by decide))
    refine g_iconst (v := nI 0) E d_Mo_moves_66 (by decide) ?_
    refine g_istore (lv' := [(6, .int (nI 0)), (5, .int (nI 0)), (0, .ref (am 0)), (1, .int (nI i)), (2, .int (nI a)), (3, .int (nI b)), (4, .int v)]) E d_Mo_moves_67 (by decide) rfl ?_
    refine g_aload_n E d_Mo_moves_69 rfl 2 rfl ?_
    refine g_iload E d_Mo_moves_70 1 rfl ?_
    refine g_nif_eq E 92 d_Mo_moves_72 (by decide) (by decide) (fun _ => ?_) (fun h6 => absurd h6 (by decide))
    refine g_iconst (v := nI 1) E d_Mo_moves_92 (by decide) ?_
    refine g_goto E 97 d_Mo_moves_93 (by decide) ?_
    refine gwVi (As := [.int (nI 1)]) (rest := []) (w' := wM V am 1 nY ix bu np st sr go ca nw yo ce wo po ne sv cl mk bg dp sh nx spn) (mc := 0) (ms := 0) E hA0 0 rfl rfl (C_Mo_refuses_1 l) (cs_Mo_85 E rfl rfl ⟨Nat.le_of_ble_eq_true rfl, Nat.le_of_ble_eq_true rfl⟩) rfl rfl (Nat.le_of_ble_eq_true rfl) ⟨Nat.zero_le _, Nat.zero_le _⟩ d_Mo_moves_97 ?_
    refine g_nif_eq E 105 d_Mo_moves_100 (by decide) (by decide) (fun h7 => absurd h7 (by decide)) (fun _ => ?_)
    refine g_iconst (v := nI 0) E d_Mo_moves_103 (by decide) ?_
    exact g_iret E hr hlk d_Mo_moves_104 (gq_wi (w1 := fun _ => wM V am 1 nY ix bu np st sr go ca nw yo ce wo po ne sv cl mk bg dp sh nx spn) () (rfl))

set_option maxHeartbeats 4000000 in
set_option maxRecDepth 100000 in
theorem Y_Mo_moves_3 (l : Launch) {V : gV} {am : Nat → Nat} {th nY : Nat} {ix bu : Nat → Nat} {np : Nat} {st sr go ca : Nat → Nat} {nw : Nat} {yo ce wo : Nat → Nat} {po ne : Nat → Option Nat} {sv : Nat → Nat} {cl : Nat → Bool} {mk bg dp : Nat} {sh nx : Nat → Nat} {spn : Int} (i a b v : Nat) (hnp : np ≤ 12) (hst : ∀ i, st i ≤ 4) (hi : i < np) (ha : a < st i) (hbs : b < st i) (hab : a ≠ b) (hv16 : v ≤ 16) (hlv : lvN go i a ≤ 16) (hle : 16 + go (16 * i + 4 * a + b) < lvN go i a + v) : mWi l y_Mo_moves (w_Mo_moves :: gt) rm_Mo_moves V (wM V am th nY ix bu np st sr go ca nw yo ce wo po ne sv cl mk bg dp sh nx spn) [.ref (am 0), .int (nI i), .int (nI a), .int (nI b), .int (nI v)] (nI 0) (wM V am 1 nY ix bu np st sr go ca nw yo ce wo po ne sv cl mk bg dp sh nx spn) 0 0 := by
  intro sz
  refine gMet (V := V) (As := [.ref (am 0), .int (nI i), .int (nI a), .int (nI b), .int (nI v)]) (cc := c_Mo_moves) (maxL := 7) (ret := (some .int)) (by decide) rfl (Nat.le_of_ble_eq_true rfl) (fun a U h => ⟨h.1, h.2.2.2.1⟩) ?_
  intro p e s m below meth c E hr hlk hnm hv
  refine g_toW (sz := sz) (w := wM V am th nY ix bu np st sr go ca nw yo ce wo po ne sv cl mk bg dp sh nx spn) hv.2.2.1 hv.2.2.2.2 ?_
  have hA0 : ∀ q : Nat, s.heap.size ≤ q → va_A (wM V am th nY ix bu np st sr go ca nw yo ce wo po ne sv cl mk bg dp sh nx spn) sz q := fun q h => Or.inr (by rw [← hv.2.1]; exact h)
  have hs := hst i
  have hg : go (16 * i + 4 * a + b) ≤ lvN go i a := sumN_at (f := fun b => go (16 * i + 4 * a + b)) (show b < 4 by omega)
  refine g_aload_n E d_Mo_moves_0 rfl 0 rfl ?_
  refine g_iload_n E d_Mo_moves_1 rfl 1 rfl ?_
  refine g_iload_n E d_Mo_moves_2 rfl 2 rfl ?_
  refine gpVi (As := [.int (nI i), .int (nI a)]) (rest := []) E gO_w 0 rfl rfl (C_Mo_isState l (nI i) (nI a) (by omega) hst) (cs_Mo_94 E rfl rfl ⟨Nat.le_of_ble_eq_true rfl, Nat.le_of_ble_eq_true rfl⟩) rfl rfl (Nat.le_of_ble_eq_true rfl) ⟨Nat.zero_le _, Nat.zero_le _⟩ d_Mo_moves_3 ?_
  refine g_topi (show bI _ = nI 1 from by rw [hasSt_y (by omega) (by omega) (by omega) (by omega)]; rfl) ?_
  refine g_nif_eq E 40 d_Mo_moves_6 (by decide) (by decide) (fun h1 => absurd h1 (by decide)) (fun _ => ?_)
  refine g_aload_n E d_Mo_moves_9 rfl 0 rfl ?_
  refine g_iload_n E d_Mo_moves_10 rfl 1 rfl ?_
  refine g_iload_n E d_Mo_moves_11 rfl 3 rfl ?_
  refine gpVi (As := [.int (nI i), .int (nI b)]) (rest := []) E gO_w 0 rfl rfl (C_Mo_isState l (nI i) (nI b) (by omega) hst) (cs_Mo_94 E rfl rfl ⟨Nat.le_of_ble_eq_true rfl, Nat.le_of_ble_eq_true rfl⟩) rfl rfl (Nat.le_of_ble_eq_true rfl) ⟨Nat.zero_le _, Nat.zero_le _⟩ d_Mo_moves_12 ?_
  refine g_topi (show bI _ = nI 1 from by rw [hasSt_y (by omega) (by omega) (by omega) (by omega)]; rfl) ?_
  refine g_nif_eq E 40 d_Mo_moves_15 (by decide) (by decide) (fun h2 => absurd h2 (by decide)) (fun _ => ?_)
  refine g_iload_n E d_Mo_moves_18 rfl 2 rfl ?_
  refine g_iload_n E d_Mo_moves_19 rfl 3 rfl ?_
  refine g_ncmp_eq E 40 d_Mo_moves_20 (by decide) (by omega) (by omega) (fun h3 => ?_) (fun h3 => ?_)
  · exact absurd h3 (by omega)
  · refine g_iload E d_Mo_moves_23 4 rfl ?_
    refine g_i2l E d_Mo_moves_25 ?_
    refine g_topl (nI_l (by omega)) ?_
    refine g_lconst (v := lN 0) E d_Mo_moves_26 (by decide) ?_
    refine g_ldc2 E kk_Mo_98 d_Mo_moves_27 ?_
    refine g_topl (show ((16) : Int64) = lN 16 from by decide) ?_
    refine gpSi (As := [.long (lN v), .long (lN 0), .long (lN 16)]) (rest := []) E gO_w (C_Mo_within l (lN v) (lN 0) (lN 16)) (cs_Mo_64 E rfl rfl ⟨Nat.le_of_ble_eq_true rfl, Nat.le_of_ble_eq_true rfl⟩) rfl rfl (Nat.le_of_ble_eq_true rfl) ⟨Nat.zero_le _, Nat.zero_le _⟩ d_Mo_moves_30 ?_
    refine g_topi (congrArg bI (inBL_N (by omega) (by omega) (by omega))) ?_
    refine g_topi (show bI _ = nI 1 from by rw [inB_y (by omega) (by omega) (by omega)]; rfl) ?_
    refine g_nif_eq E 40 d_Mo_moves_33 (by decide) (by decide) (fun h4 => absurd h4 (by decide)) (fun _ => ?_)
    refine g_iconst (v := nI 1) E d_Mo_moves_36 (by decide) ?_
    refine g_goto E 41 d_Mo_moves_37 (by decide) ?_
    refine g_istore (lv' := [(5, .int (nI 1)), (0, .ref (am 0)), (1, .int (nI i)), (2, .int (nI a)), (3, .int (nI b)), (4, .int (nI v))]) E d_Mo_moves_41 (by decide) rfl ?_
    refine g_iload E d_Mo_moves_43 0 rfl ?_
    refine g_nif_eq E 66 d_Mo_moves_45 (by decide) (by decide) (fun h5 => absurd h5 (by decide)) (fun _ => ?_)
    refine g_aload_n E d_Mo_moves_48 rfl 1 rfl ?_
    refine gf_Mo_22 E gO_w 0 rfl rfl d_Mo_moves_49 ?_
    refine g_bipush (v := nI 16) E d_Mo_moves_52 (by decide) ?_
    refine g_iload_n E d_Mo_moves_54 rfl 2 rfl ?_
    refine g_imul E d_Mo_moves_55 ?_
    refine g_topi (pk_mul _ _) ?_
    refine g_iconst (v := nI 4) E d_Mo_moves_56 (by decide) ?_
    refine g_iload_n E d_Mo_moves_57 rfl 3 rfl ?_
    refine g_imul E d_Mo_moves_58 ?_
    refine g_topi (pk_mul _ _) ?_
    refine g_iadd E d_Mo_moves_59 ?_
    refine g_topi (nI_add _ _) ?_
    refine g_iload_n E d_Mo_moves_60 rfl 4 rfl ?_
    refine g_iadd E d_Mo_moves_61 ?_
    refine g_topi (nI_add _ _) ?_
    refine g_ldN E gO_w 5 rfl (by omega) (by decide) d_Mo_moves_62 ?_
    refine g_goto E 67 d_Mo_moves_63 (by decide) ?_
    refine g_istore (lv' := [(6, .int (nI (go (((16 * i) + (4 * a)) + b)))), (5, .int (nI 1)), (0, .ref (am 0)), (1, .int (nI i)), (2, .int (nI a)), (3, .int (nI b)), (4, .int (nI v))]) E d_Mo_moves_67 (by decide) rfl ?_
    refine g_aload_n E d_Mo_moves_69 rfl 2 rfl ?_
    refine g_iload E d_Mo_moves_70 1 rfl ?_
    refine g_nif_eq E 92 d_Mo_moves_72 (by decide) (by decide) (fun h6 => absurd h6 (by decide)) (fun _ => ?_)
    refine g_aload_n E d_Mo_moves_75 rfl 2 rfl ?_
    refine g_iload_n E d_Mo_moves_76 rfl 3 rfl ?_
    refine g_iload_n E d_Mo_moves_77 rfl 4 rfl ?_
    refine gpVi (As := [.int (nI i), .int (nI a)]) (rest := [.ref (am 0)]) E gO_w 0 rfl rfl (C_Mo_leaving l i a (by omega) (by omega)) (cs_Mo_100 E rfl rfl ⟨Nat.le_of_ble_eq_true rfl, Nat.le_of_ble_eq_true rfl⟩) rfl rfl (Nat.le_of_ble_eq_true rfl) ⟨Nat.zero_le _, Nat.zero_le _⟩ d_Mo_moves_78 ?_
    refine g_iload E d_Mo_moves_81 0 rfl ?_
    refine g_isub E d_Mo_moves_83 ?_
    refine g_topi (pk_sub (by omega)) ?_
    refine g_iload E d_Mo_moves_84 6 rfl ?_
    refine g_iadd E d_Mo_moves_86 ?_
    refine g_topi (nI_add _ _) ?_
    refine g_bipush (v := nI 16) E d_Mo_moves_87 (by decide) ?_
    refine g_ncmp_le E 96 d_Mo_moves_89 (by decide) (by omega) (by omega) (fun h7 => ?_) (fun h7 => ?_)
    · exact absurd h7 (by omega)
    · refine g_iconst (v := nI 1) E d_Mo_moves_92 (by decide) ?_
      refine g_goto E 97 d_Mo_moves_93 (by decide) ?_
      refine gwVi (As := [.int (nI 1)]) (rest := []) (w' := wM V am 1 nY ix bu np st sr go ca nw yo ce wo po ne sv cl mk bg dp sh nx spn) (mc := 0) (ms := 0) E hA0 0 rfl rfl (C_Mo_refuses_1 l) (cs_Mo_85 E rfl rfl ⟨Nat.le_of_ble_eq_true rfl, Nat.le_of_ble_eq_true rfl⟩) rfl rfl (Nat.le_of_ble_eq_true rfl) ⟨Nat.zero_le _, Nat.zero_le _⟩ d_Mo_moves_97 ?_
      refine g_nif_eq E 105 d_Mo_moves_100 (by decide) (by decide) (fun h8 => absurd h8 (by decide)) (fun _ => ?_)
      refine g_iconst (v := nI 0) E d_Mo_moves_103 (by decide) ?_
      exact g_iret E hr hlk d_Mo_moves_104 (gq_wi (w1 := fun _ => wM V am 1 nY ix bu np st sr go ca nw yo ce wo po ne sv cl mk bg dp sh nx spn) () (rfl))

set_option maxHeartbeats 4000000 in
set_option maxRecDepth 100000 in
theorem Y_Mo_care (l : Launch) {V : gV} {am : Nat → Nat} {th nY : Nat} {ix bu : Nat → Nat} {np : Nat} {st sr go ca : Nat → Nat} {nw : Nat} {yo ce wo : Nat → Nat} {po ne : Nat → Option Nat} {sv : Nat → Nat} {cl : Nat → Bool} {mk bg dp : Nat} {sh nx : Nat → Nat} {spn : Int} (x a v : Int32) (hnp : np ≤ 12) (hst : ∀ i, st i ≤ 4) (hb : (hasSt np st x a && inB v (nI 0) (nI 1000)) = false) : mWi l y_Mo_care (w_Mo_care :: gt) rm_Mo_care V (wM V am th nY ix bu np st sr go ca nw yo ce wo po ne sv cl mk bg dp sh nx spn) [.ref (am 0), .int x, .int a, .int v] (nI 0) (wM V am 1 nY ix bu np st sr go ca nw yo ce wo po ne sv cl mk bg dp sh nx spn) 0 0 := by
  intro sz
  refine gMet (V := V) (As := [.ref (am 0), .int x, .int a, .int v]) (cc := c_Mo_care) (maxL := 5) (ret := (some .int)) (by decide) rfl (Nat.le_of_ble_eq_true rfl) (fun a U h => ⟨h.1, h.2.2.2.1⟩) ?_
  intro p e s m below meth c E hr hlk hnm hv
  refine g_toW (sz := sz) (w := wM V am th nY ix bu np st sr go ca nw yo ce wo po ne sv cl mk bg dp sh nx spn) hv.2.2.1 hv.2.2.2.2 ?_
  have hA0 : ∀ q : Nat, s.heap.size ≤ q → va_A (wM V am th nY ix bu np st sr go ca nw yo ce wo po ne sv cl mk bg dp sh nx spn) sz q := fun q h => Or.inr (by rw [← hv.2.1]; exact h)
  refine g_aload_n E d_Mo_care_0 rfl 0 rfl ?_
  refine g_aload_n E d_Mo_care_1 rfl 0 rfl ?_
  refine g_iload_n E d_Mo_care_2 rfl 1 rfl ?_
  refine g_iload_n E d_Mo_care_3 rfl 2 rfl ?_
  refine gpVi (As := [.int x, .int a]) (rest := [.ref (am 0)]) E gO_w 0 rfl rfl (C_Mo_isState l x a (by omega) hst) (cs_Mo_94 E rfl rfl ⟨Nat.le_of_ble_eq_true rfl, Nat.le_of_ble_eq_true rfl⟩) rfl rfl (Nat.le_of_ble_eq_true rfl) ⟨Nat.zero_le _, Nat.zero_le _⟩ d_Mo_care_4 ?_
  refine g_bif_eq E 26 d_Mo_care_7 (by decide) (fun h1 => ?_) (fun h1 => ?_)
  · refine g_iconst (v := nI 1) E d_Mo_care_26 (by decide) ?_
    refine gwVi (As := [.int (nI 1)]) (rest := []) (w' := wM V am 1 nY ix bu np st sr go ca nw yo ce wo po ne sv cl mk bg dp sh nx spn) (mc := 0) (ms := 0) E hA0 0 rfl rfl (C_Mo_refuses_1 l) (cs_Mo_85 E rfl rfl ⟨Nat.le_of_ble_eq_true rfl, Nat.le_of_ble_eq_true rfl⟩) rfl rfl (Nat.le_of_ble_eq_true rfl) ⟨Nat.zero_le _, Nat.zero_le _⟩ d_Mo_care_27 ?_
    refine g_nif_eq E 35 d_Mo_care_30 (by decide) (by decide) (fun h2 => absurd h2 (by decide)) (fun _ => ?_)
    refine g_iconst (v := nI 0) E d_Mo_care_33 (by decide) ?_
    exact g_iret E hr hlk d_Mo_care_34 (gq_wi (w1 := fun _ => wM V am 1 nY ix bu np st sr go ca nw yo ce wo po ne sv cl mk bg dp sh nx spn) () (rfl))
  · refine g_iload_n E d_Mo_care_10 rfl 3 rfl ?_
    refine g_i2l E d_Mo_care_11 ?_
    refine g_lconst (v := lN 0) E d_Mo_care_12 (by decide) ?_
    refine g_ldc2 E kk_Mo_104 d_Mo_care_13 ?_
    refine g_topl (show ((1000) : Int64) = lN 1000 from by decide) ?_
    refine gpSi (As := [.long v.toInt64, .long (lN 0), .long (lN 1000)]) (rest := [.ref (am 0)]) E gO_w (C_Mo_within l v.toInt64 (lN 0) (lN 1000)) (cs_Mo_64 E rfl rfl ⟨Nat.le_of_ble_eq_true rfl, Nat.le_of_ble_eq_true rfl⟩) rfl rfl (Nat.le_of_ble_eq_true rfl) ⟨Nat.zero_le _, Nat.zero_le _⟩ d_Mo_care_16 ?_
    refine g_topi (congrArg bI (inBL_B v (by omega) (by omega))) ?_
    refine g_bif_eq E 26 d_Mo_care_19 (by decide) (fun h3 => ?_) (fun h3 => ?_)
    · refine g_iconst (v := nI 1) E d_Mo_care_26 (by decide) ?_
      refine gwVi (As := [.int (nI 1)]) (rest := []) (w' := wM V am 1 nY ix bu np st sr go ca nw yo ce wo po ne sv cl mk bg dp sh nx spn) (mc := 0) (ms := 0) E hA0 0 rfl rfl (C_Mo_refuses_1 l) (cs_Mo_85 E rfl rfl ⟨Nat.le_of_ble_eq_true rfl, Nat.le_of_ble_eq_true rfl⟩) rfl rfl (Nat.le_of_ble_eq_true rfl) ⟨Nat.zero_le _, Nat.zero_le _⟩ d_Mo_care_27 ?_
      refine g_nif_eq E 35 d_Mo_care_30 (by decide) (by decide) (fun h4 => absurd h4 (by decide)) (fun _ => ?_)
      refine g_iconst (v := nI 0) E d_Mo_care_33 (by decide) ?_
      exact g_iret E hr hlk d_Mo_care_34 (gq_wi (w1 := fun _ => wM V am 1 nY ix bu np st sr go ca nw yo ce wo po ne sv cl mk bg dp sh nx spn) () (rfl))
    · refine g_iconst (v := nI 0) E d_Mo_care_22 (by decide) ?_
      refine g_goto E 27 d_Mo_care_23 (by decide) ?_
      exact absurd hb (by first | (simp [h1, h3]; done) | simp_all)

set_option maxHeartbeats 4000000 in
set_option maxRecDepth 100000 in
theorem Y_Mo_share (l : Launch) {V : gV} {am : Nat → Nat} {th nY : Nat} {ix bu : Nat → Nat} {np : Nat} {st sr go ca : Nat → Nat} {nw : Nat} {yo ce wo : Nat → Nat} {po ne : Nat → Option Nat} {sv : Nat → Nat} {cl : Nat → Bool} {mk bg dp : Nat} {sh nx : Nat → Nat} {spn : Int} (x a y : Int32) (hnp : np ≤ 12) (hst : ∀ i, st i ≤ 4) (hY : nY ≤ 12) (hb : (hasSt np st x a && inR y (nI nY)) = false) : mWl l y_Mo_share (w_Mo_share :: gt) rm_Mo_share V (wM V am th nY ix bu np st sr go ca nw yo ce wo po ne sv cl mk bg dp sh nx spn) [.ref (am 0), .int x, .int a, .int y] (lN 0) (wM V am 1 nY ix bu np st sr go ca nw yo ce wo po ne sv cl mk bg dp sh nx spn) 0 0 := by
  intro sz
  refine gMet (V := V) (As := [.ref (am 0), .int x, .int a, .int y]) (cc := c_Mo_share) (maxL := 6) (ret := (some .long)) (by decide) rfl (Nat.le_of_ble_eq_true rfl) (fun a U h => ⟨h.1, h.2.2.2.1⟩) ?_
  intro p e s m below meth c E hr hlk hnm hv
  refine g_toW (sz := sz) (w := wM V am th nY ix bu np st sr go ca nw yo ce wo po ne sv cl mk bg dp sh nx spn) hv.2.2.1 hv.2.2.2.2 ?_
  have hA0 : ∀ q : Nat, s.heap.size ≤ q → va_A (wM V am th nY ix bu np st sr go ca nw yo ce wo po ne sv cl mk bg dp sh nx spn) sz q := fun q h => Or.inr (by rw [← hv.2.1]; exact h)
  refine g_aload_n E d_Mo_share_0 rfl 0 rfl ?_
  refine g_aload_n E d_Mo_share_1 rfl 0 rfl ?_
  refine g_iload_n E d_Mo_share_2 rfl 1 rfl ?_
  refine g_iload_n E d_Mo_share_3 rfl 2 rfl ?_
  refine gpVi (As := [.int x, .int a]) (rest := [.ref (am 0)]) E gO_w 0 rfl rfl (C_Mo_isState l x a (by omega) hst) (cs_Mo_94 E rfl rfl ⟨Nat.le_of_ble_eq_true rfl, Nat.le_of_ble_eq_true rfl⟩) rfl rfl (Nat.le_of_ble_eq_true rfl) ⟨Nat.zero_le _, Nat.zero_le _⟩ d_Mo_share_4 ?_
  refine g_bif_eq E 22 d_Mo_share_7 (by decide) (fun h1 => ?_) (fun h1 => ?_)
  · refine g_iconst (v := nI 1) E d_Mo_share_22 (by decide) ?_
    refine gwVi (As := [.int (nI 1)]) (rest := []) (w' := wM V am 1 nY ix bu np st sr go ca nw yo ce wo po ne sv cl mk bg dp sh nx spn) (mc := 0) (ms := 0) E hA0 0 rfl rfl (C_Mo_refuses_1 l) (cs_Mo_85 E rfl rfl ⟨Nat.le_of_ble_eq_true rfl, Nat.le_of_ble_eq_true rfl⟩) rfl rfl (Nat.le_of_ble_eq_true rfl) ⟨Nat.zero_le _, Nat.zero_le _⟩ d_Mo_share_23 ?_
    refine g_nif_eq E 31 d_Mo_share_26 (by decide) (by decide) (fun h2 => absurd h2 (by decide)) (fun _ => ?_)
    refine g_lconst (v := lN 0) E d_Mo_share_29 (by decide) ?_
    exact g_lret E hr hlk d_Mo_share_30 (gq_wl (w1 := fun _ => wM V am 1 nY ix bu np st sr go ca nw yo ce wo po ne sv cl mk bg dp sh nx spn) () (rfl))
  · refine g_aload_n E d_Mo_share_10 rfl 0 rfl ?_
    refine g_iload_n E d_Mo_share_11 rfl 3 rfl ?_
    refine gpVi (As := [.int y]) (rest := [.ref (am 0)]) E gO_w 0 rfl rfl (C_Mo_isYear l y (by omega)) (cs_Mo_78 E rfl rfl ⟨Nat.le_of_ble_eq_true rfl, Nat.le_of_ble_eq_true rfl⟩) rfl rfl (Nat.le_of_ble_eq_true rfl) ⟨Nat.zero_le _, Nat.zero_le _⟩ d_Mo_share_12 ?_
    refine g_bif_eq E 22 d_Mo_share_15 (by decide) (fun h3 => ?_) (fun h3 => ?_)
    · refine g_iconst (v := nI 1) E d_Mo_share_22 (by decide) ?_
      refine gwVi (As := [.int (nI 1)]) (rest := []) (w' := wM V am 1 nY ix bu np st sr go ca nw yo ce wo po ne sv cl mk bg dp sh nx spn) (mc := 0) (ms := 0) E hA0 0 rfl rfl (C_Mo_refuses_1 l) (cs_Mo_85 E rfl rfl ⟨Nat.le_of_ble_eq_true rfl, Nat.le_of_ble_eq_true rfl⟩) rfl rfl (Nat.le_of_ble_eq_true rfl) ⟨Nat.zero_le _, Nat.zero_le _⟩ d_Mo_share_23 ?_
      refine g_nif_eq E 31 d_Mo_share_26 (by decide) (by decide) (fun h4 => absurd h4 (by decide)) (fun _ => ?_)
      refine g_lconst (v := lN 0) E d_Mo_share_29 (by decide) ?_
      exact g_lret E hr hlk d_Mo_share_30 (gq_wl (w1 := fun _ => wM V am 1 nY ix bu np st sr go ca nw yo ce wo po ne sv cl mk bg dp sh nx spn) () (rfl))
    · refine g_iconst (v := nI 0) E d_Mo_share_18 (by decide) ?_
      refine g_goto E 23 d_Mo_share_19 (by decide) ?_
      exact absurd hb (by first | (simp [h1, h3]; done) | simp_all)

set_option maxHeartbeats 4000000 in
set_option maxRecDepth 100000 in
theorem Y_Mo_cares (l : Launch) {V : gV} {am : Nat → Nat} {th nY : Nat} {ix bu : Nat → Nat} {np : Nat} {st sr go ca : Nat → Nat} {nw : Nat} {yo ce wo : Nat → Nat} {po ne : Nat → Option Nat} {sv : Nat → Nat} {cl : Nat → Bool} {mk bg dp : Nat} {sh nx : Nat → Nat} {spn : Int} (x y : Int32) (hnp : np ≤ 12) (hY : nY ≤ 12) (hb : (inR x (nI np) && inR y (nI nY)) = false) : mWi l y_Mo_cares (w_Mo_cares :: gt) rm_Mo_cares V (wM V am th nY ix bu np st sr go ca nw yo ce wo po ne sv cl mk bg dp sh nx spn) [.ref (am 0), .int x, .int y] (nI 0) (wM V am 1 nY ix bu np st sr go ca nw yo ce wo po ne sv cl mk bg dp sh nx spn) 0 0 := by
  intro sz
  refine gMet (V := V) (As := [.ref (am 0), .int x, .int y]) (cc := c_Mo_cares) (maxL := 3) (ret := (some .int)) (by decide) rfl (Nat.le_of_ble_eq_true rfl) (fun a U h => ⟨h.1, h.2.2.2.1⟩) ?_
  intro p e s m below meth c E hr hlk hnm hv
  refine g_toW (sz := sz) (w := wM V am th nY ix bu np st sr go ca nw yo ce wo po ne sv cl mk bg dp sh nx spn) hv.2.2.1 hv.2.2.2.2 ?_
  have hA0 : ∀ q : Nat, s.heap.size ≤ q → va_A (wM V am th nY ix bu np st sr go ca nw yo ce wo po ne sv cl mk bg dp sh nx spn) sz q := fun q h => Or.inr (by rw [← hv.2.1]; exact h)
  refine g_aload_n E d_Mo_cares_0 rfl 0 rfl ?_
  refine g_aload_n E d_Mo_cares_1 rfl 0 rfl ?_
  refine g_iload_n E d_Mo_cares_2 rfl 1 rfl ?_
  refine gpVi (As := [.int x]) (rest := [.ref (am 0)]) E gO_w 0 rfl rfl (C_Mo_isPart l x (by omega)) (cs_Mo_71 E rfl rfl ⟨Nat.le_of_ble_eq_true rfl, Nat.le_of_ble_eq_true rfl⟩) rfl rfl (Nat.le_of_ble_eq_true rfl) ⟨Nat.zero_le _, Nat.zero_le _⟩ d_Mo_cares_3 ?_
  refine g_bif_eq E 21 d_Mo_cares_6 (by decide) (fun h1 => ?_) (fun h1 => ?_)
  · refine g_iconst (v := nI 1) E d_Mo_cares_21 (by decide) ?_
    refine gwVi (As := [.int (nI 1)]) (rest := []) (w' := wM V am 1 nY ix bu np st sr go ca nw yo ce wo po ne sv cl mk bg dp sh nx spn) (mc := 0) (ms := 0) E hA0 0 rfl rfl (C_Mo_refuses_1 l) (cs_Mo_85 E rfl rfl ⟨Nat.le_of_ble_eq_true rfl, Nat.le_of_ble_eq_true rfl⟩) rfl rfl (Nat.le_of_ble_eq_true rfl) ⟨Nat.zero_le _, Nat.zero_le _⟩ d_Mo_cares_22 ?_
    refine g_nif_eq E 32 d_Mo_cares_25 (by decide) (by decide) (fun h2 => absurd h2 (by decide)) (fun _ => ?_)
    refine g_iconst (v := nI 0) E d_Mo_cares_28 (by decide) ?_
    refine g_goto E 39 d_Mo_cares_29 (by decide) ?_
    exact g_iret E hr hlk d_Mo_cares_39 (gq_wi (w1 := fun _ => wM V am 1 nY ix bu np st sr go ca nw yo ce wo po ne sv cl mk bg dp sh nx spn) () (rfl))
  · refine g_aload_n E d_Mo_cares_9 rfl 0 rfl ?_
    refine g_iload_n E d_Mo_cares_10 rfl 2 rfl ?_
    refine gpVi (As := [.int y]) (rest := [.ref (am 0)]) E gO_w 0 rfl rfl (C_Mo_isYear l y (by omega)) (cs_Mo_78 E rfl rfl ⟨Nat.le_of_ble_eq_true rfl, Nat.le_of_ble_eq_true rfl⟩) rfl rfl (Nat.le_of_ble_eq_true rfl) ⟨Nat.zero_le _, Nat.zero_le _⟩ d_Mo_cares_11 ?_
    refine g_bif_eq E 21 d_Mo_cares_14 (by decide) (fun h3 => ?_) (fun h3 => ?_)
    · refine g_iconst (v := nI 1) E d_Mo_cares_21 (by decide) ?_
      refine gwVi (As := [.int (nI 1)]) (rest := []) (w' := wM V am 1 nY ix bu np st sr go ca nw yo ce wo po ne sv cl mk bg dp sh nx spn) (mc := 0) (ms := 0) E hA0 0 rfl rfl (C_Mo_refuses_1 l) (cs_Mo_85 E rfl rfl ⟨Nat.le_of_ble_eq_true rfl, Nat.le_of_ble_eq_true rfl⟩) rfl rfl (Nat.le_of_ble_eq_true rfl) ⟨Nat.zero_le _, Nat.zero_le _⟩ d_Mo_cares_22 ?_
      refine g_nif_eq E 32 d_Mo_cares_25 (by decide) (by decide) (fun h4 => absurd h4 (by decide)) (fun _ => ?_)
      refine g_iconst (v := nI 0) E d_Mo_cares_28 (by decide) ?_
      refine g_goto E 39 d_Mo_cares_29 (by decide) ?_
      exact g_iret E hr hlk d_Mo_cares_39 (gq_wi (w1 := fun _ => wM V am 1 nY ix bu np st sr go ca nw yo ce wo po ne sv cl mk bg dp sh nx spn) () (rfl))
    · refine g_iconst (v := nI 0) E d_Mo_cares_17 (by decide) ?_
      refine g_goto E 22 d_Mo_cares_18 (by decide) ?_
      exact absurd hb (by first | (simp [h1, h3]; done) | simp_all)

set_option maxHeartbeats 4000000 in
set_option maxRecDepth 100000 in
theorem Y_Mo_most (l : Launch) {V : gV} {am : Nat → Nat} {th nY : Nat} {ix bu : Nat → Nat} {np : Nat} {st sr go ca : Nat → Nat} {nw : Nat} {yo ce wo : Nat → Nat} {po ne : Nat → Option Nat} {sv : Nat → Nat} {cl : Nat → Bool} {mk bg dp : Nat} {sh nx : Nat → Nat} {spn : Int} (x y : Int32) (hnp : np ≤ 12) (hY : nY ≤ 12) (hb : (inR x (nI np) && inR y (nI nY)) = false) : mWi l y_Mo_most (w_Mo_most :: gt) rm_Mo_most V (wM V am th nY ix bu np st sr go ca nw yo ce wo po ne sv cl mk bg dp sh nx spn) [.ref (am 0), .int x, .int y] (nI 0) (wM V am 1 nY ix bu np st sr go ca nw yo ce wo po ne sv cl mk bg dp sh nx spn) 0 0 := by
  intro sz
  refine gMet (V := V) (As := [.ref (am 0), .int x, .int y]) (cc := c_Mo_most) (maxL := 7) (ret := (some .int)) (by decide) rfl (Nat.le_of_ble_eq_true rfl) (fun a U h => ⟨h.1, h.2.2.2.1⟩) ?_
  intro p e s m below meth c E hr hlk hnm hv
  refine g_toW (sz := sz) (w := wM V am th nY ix bu np st sr go ca nw yo ce wo po ne sv cl mk bg dp sh nx spn) hv.2.2.1 hv.2.2.2.2 ?_
  have hA0 : ∀ q : Nat, s.heap.size ≤ q → va_A (wM V am th nY ix bu np st sr go ca nw yo ce wo po ne sv cl mk bg dp sh nx spn) sz q := fun q h => Or.inr (by rw [← hv.2.1]; exact h)
  refine g_aload_n E d_Mo_most_0 rfl 0 rfl ?_
  refine g_aload_n E d_Mo_most_1 rfl 0 rfl ?_
  refine g_iload_n E d_Mo_most_2 rfl 1 rfl ?_
  refine gpVi (As := [.int x]) (rest := [.ref (am 0)]) E gO_w 0 rfl rfl (C_Mo_isPart l x (by omega)) (cs_Mo_71 E rfl rfl ⟨Nat.le_of_ble_eq_true rfl, Nat.le_of_ble_eq_true rfl⟩) rfl rfl (Nat.le_of_ble_eq_true rfl) ⟨Nat.zero_le _, Nat.zero_le _⟩ d_Mo_most_3 ?_
  refine g_bif_eq E 21 d_Mo_most_6 (by decide) (fun h1 => ?_) (fun h1 => ?_)
  · refine g_iconst (v := nI 1) E d_Mo_most_21 (by decide) ?_
    refine gwVi (As := [.int (nI 1)]) (rest := []) (w' := wM V am 1 nY ix bu np st sr go ca nw yo ce wo po ne sv cl mk bg dp sh nx spn) (mc := 0) (ms := 0) E hA0 0 rfl rfl (C_Mo_refuses_1 l) (cs_Mo_85 E rfl rfl ⟨Nat.le_of_ble_eq_true rfl, Nat.le_of_ble_eq_true rfl⟩) rfl rfl (Nat.le_of_ble_eq_true rfl) ⟨Nat.zero_le _, Nat.zero_le _⟩ d_Mo_most_22 ?_
    refine g_nif_eq E 30 d_Mo_most_25 (by decide) (by decide) (fun h2 => absurd h2 (by decide)) (fun _ => ?_)
    refine g_iconst (v := nI 0) E d_Mo_most_28 (by decide) ?_
    exact g_iret E hr hlk d_Mo_most_29 (gq_wi (w1 := fun _ => wM V am 1 nY ix bu np st sr go ca nw yo ce wo po ne sv cl mk bg dp sh nx spn) () (rfl))
  · refine g_aload_n E d_Mo_most_9 rfl 0 rfl ?_
    refine g_iload_n E d_Mo_most_10 rfl 2 rfl ?_
    refine gpVi (As := [.int y]) (rest := [.ref (am 0)]) E gO_w 0 rfl rfl (C_Mo_isYear l y (by omega)) (cs_Mo_78 E rfl rfl ⟨Nat.le_of_ble_eq_true rfl, Nat.le_of_ble_eq_true rfl⟩) rfl rfl (Nat.le_of_ble_eq_true rfl) ⟨Nat.zero_le _, Nat.zero_le _⟩ d_Mo_most_11 ?_
    refine g_bif_eq E 21 d_Mo_most_14 (by decide) (fun h3 => ?_) (fun h3 => ?_)
    · refine g_iconst (v := nI 1) E d_Mo_most_21 (by decide) ?_
      refine gwVi (As := [.int (nI 1)]) (rest := []) (w' := wM V am 1 nY ix bu np st sr go ca nw yo ce wo po ne sv cl mk bg dp sh nx spn) (mc := 0) (ms := 0) E hA0 0 rfl rfl (C_Mo_refuses_1 l) (cs_Mo_85 E rfl rfl ⟨Nat.le_of_ble_eq_true rfl, Nat.le_of_ble_eq_true rfl⟩) rfl rfl (Nat.le_of_ble_eq_true rfl) ⟨Nat.zero_le _, Nat.zero_le _⟩ d_Mo_most_22 ?_
      refine g_nif_eq E 30 d_Mo_most_25 (by decide) (by decide) (fun h4 => absurd h4 (by decide)) (fun _ => ?_)
      refine g_iconst (v := nI 0) E d_Mo_most_28 (by decide) ?_
      exact g_iret E hr hlk d_Mo_most_29 (gq_wi (w1 := fun _ => wM V am 1 nY ix bu np st sr go ca nw yo ce wo po ne sv cl mk bg dp sh nx spn) () (rfl))
    · refine g_iconst (v := nI 0) E d_Mo_most_17 (by decide) ?_
      refine g_goto E 22 d_Mo_most_18 (by decide) ?_
      exact absurd hb (by first | (simp [h1, h3]; done) | simp_all)

set_option maxHeartbeats 4000000 in
set_option maxRecDepth 100000 in
theorem Y_Mo_work_1 (l : Launch) {V : gV} {am : Nat → Nat} {th nY : Nat} {ix bu : Nat → Nat} {np : Nat} {st sr go ca : Nat → Nat} {nw : Nat} {yo ce wo : Nat → Nat} {po ne : Nat → Option Nat} {sv : Nat → Nat} {cl : Nat → Bool} {mk bg dp : Nat} {sh nx : Nat → Nat} {spn : Int} (y k v q : Int32) (hnp : np ≤ 12) (hY : nY ≤ 12) (hnw : nw ≤ 10) (hb : (inR y (nI nY) && (decide (q = oN none) || inR q (nI np))) = false) : mWi l y_Mo_work (w_Mo_work :: gt) rm_Mo_work V (wM V am th nY ix bu np st sr go ca nw yo ce wo po ne sv cl mk bg dp sh nx spn) [.ref (am 0), .int y, .int k, .int v, .int q] (nI 0) (wM V am 1 nY ix bu np st sr go ca nw yo ce wo po ne sv cl mk bg dp sh nx spn) 0 0 := by
  intro sz
  refine gMet (V := V) (As := [.ref (am 0), .int y, .int k, .int v, .int q]) (cc := c_Mo_work) (maxL := 6) (ret := (some .int)) (by decide) rfl (Nat.le_of_ble_eq_true rfl) (fun a U h => ⟨h.1, h.2.2.2.1⟩) ?_
  intro p e s m below meth c E hr hlk hnm hv
  refine g_toW (sz := sz) (w := wM V am th nY ix bu np st sr go ca nw yo ce wo po ne sv cl mk bg dp sh nx spn) hv.2.2.1 hv.2.2.2.2 ?_
  have hA0 : ∀ q : Nat, s.heap.size ≤ q → va_A (wM V am th nY ix bu np st sr go ca nw yo ce wo po ne sv cl mk bg dp sh nx spn) sz q := fun q h => Or.inr (by rw [← hv.2.1]; exact h)
  refine g_aload_n E d_Mo_work_0 rfl 0 rfl ?_
  refine g_iload_n E d_Mo_work_1 rfl 1 rfl ?_
  refine gpVi (As := [.int y]) (rest := []) E gO_w 0 rfl rfl (C_Mo_isYear l y (by omega)) (cs_Mo_78 E rfl rfl ⟨Nat.le_of_ble_eq_true rfl, Nat.le_of_ble_eq_true rfl⟩) rfl rfl (Nat.le_of_ble_eq_true rfl) ⟨Nat.zero_le _, Nat.zero_le _⟩ d_Mo_work_2 ?_
  refine g_bif_eq E 51 d_Mo_work_5 (by decide) (fun h1 => ?_) (fun h1 => ?_)
  · refine g_iconst (v := nI 0) E d_Mo_work_51 (by decide) ?_
    refine g_istore (lv' := [(5, .int (nI 0)), (0, .ref (am 0)), (1, .int y), (2, .int k), (3, .int v), (4, .int q)]) E d_Mo_work_52 (by decide) rfl ?_
    refine g_aload_n E d_Mo_work_54 rfl 1 rfl ?_
    refine g_iload E d_Mo_work_55 0 rfl ?_
    refine g_nif_ne E 64 d_Mo_work_57 (by decide) (by decide) (fun h2 => absurd h2 (by decide)) (fun _ => ?_)
    refine g_iconst (v := nI 1) E d_Mo_work_60 (by decide) ?_
    refine g_goto E 78 d_Mo_work_61 (by decide) ?_
    refine gwVi (As := [.int (nI 1)]) (rest := []) (w' := wM V am 1 nY ix bu np st sr go ca nw yo ce wo po ne sv cl mk bg dp sh nx spn) (mc := 0) (ms := 0) E hA0 0 rfl rfl (C_Mo_refuses_1 l) (cs_Mo_85 E rfl rfl ⟨Nat.le_of_ble_eq_true rfl, Nat.le_of_ble_eq_true rfl⟩) rfl rfl (Nat.le_of_ble_eq_true rfl) ⟨Nat.zero_le _, Nat.zero_le _⟩ d_Mo_work_78 ?_
    refine g_nif_eq E 86 d_Mo_work_81 (by decide) (by decide) (fun h3 => absurd h3 (by decide)) (fun _ => ?_)
    refine g_iconst (v := nI 0) E d_Mo_work_84 (by decide) ?_
    exact g_iret E hr hlk d_Mo_work_85 (gq_wi (w1 := fun _ => wM V am 1 nY ix bu np st sr go ca nw yo ce wo po ne sv cl mk bg dp sh nx spn) () (rfl))
  · refine g_iload_n E d_Mo_work_8 rfl 2 rfl ?_
    refine g_i2l E d_Mo_work_9 ?_
    refine g_lconst (v := lN 1) E d_Mo_work_10 (by decide) ?_
    refine g_ldc2 E kk_Mo_119 d_Mo_work_11 ?_
    refine g_topl (show ((1000000) : Int64) = lN 1000000 from by decide) ?_
    refine gpSi (As := [.long k.toInt64, .long (lN 1), .long (lN 1000000)]) (rest := []) E gO_w (C_Mo_within l k.toInt64 (lN 1) (lN 1000000)) (cs_Mo_64 E rfl rfl ⟨Nat.le_of_ble_eq_true rfl, Nat.le_of_ble_eq_true rfl⟩) rfl rfl (Nat.le_of_ble_eq_true rfl) ⟨Nat.zero_le _, Nat.zero_le _⟩ d_Mo_work_14 ?_
    refine g_topi (congrArg bI (inBL_B k (by omega) (by omega))) ?_
    refine g_bif_eq E 51 d_Mo_work_17 (by decide) (fun h4 => ?_) (fun h4 => ?_)
    · refine g_iconst (v := nI 0) E d_Mo_work_51 (by decide) ?_
      refine g_istore (lv' := [(5, .int (nI 0)), (0, .ref (am 0)), (1, .int y), (2, .int k), (3, .int v), (4, .int q)]) E d_Mo_work_52 (by decide) rfl ?_
      refine g_aload_n E d_Mo_work_54 rfl 1 rfl ?_
      refine g_iload E d_Mo_work_55 0 rfl ?_
      refine g_nif_ne E 64 d_Mo_work_57 (by decide) (by decide) (fun h5 => absurd h5 (by decide)) (fun _ => ?_)
      refine g_iconst (v := nI 1) E d_Mo_work_60 (by decide) ?_
      refine g_goto E 78 d_Mo_work_61 (by decide) ?_
      refine gwVi (As := [.int (nI 1)]) (rest := []) (w' := wM V am 1 nY ix bu np st sr go ca nw yo ce wo po ne sv cl mk bg dp sh nx spn) (mc := 0) (ms := 0) E hA0 0 rfl rfl (C_Mo_refuses_1 l) (cs_Mo_85 E rfl rfl ⟨Nat.le_of_ble_eq_true rfl, Nat.le_of_ble_eq_true rfl⟩) rfl rfl (Nat.le_of_ble_eq_true rfl) ⟨Nat.zero_le _, Nat.zero_le _⟩ d_Mo_work_78 ?_
      refine g_nif_eq E 86 d_Mo_work_81 (by decide) (by decide) (fun h6 => absurd h6 (by decide)) (fun _ => ?_)
      refine g_iconst (v := nI 0) E d_Mo_work_84 (by decide) ?_
      exact g_iret E hr hlk d_Mo_work_85 (gq_wi (w1 := fun _ => wM V am 1 nY ix bu np st sr go ca nw yo ce wo po ne sv cl mk bg dp sh nx spn) () (rfl))
    · refine g_iload_n E d_Mo_work_20 rfl 3 rfl ?_
      refine g_i2l E d_Mo_work_21 ?_
      refine g_lconst (v := lN 0) E d_Mo_work_22 (by decide) ?_
      refine g_ldc2 E kk_Mo_119 d_Mo_work_23 ?_
      refine g_topl (show ((1000000) : Int64) = lN 1000000 from by decide) ?_
      refine gpSi (As := [.long v.toInt64, .long (lN 0), .long (lN 1000000)]) (rest := []) E gO_w (C_Mo_within l v.toInt64 (lN 0) (lN 1000000)) (cs_Mo_64 E rfl rfl ⟨Nat.le_of_ble_eq_true rfl, Nat.le_of_ble_eq_true rfl⟩) rfl rfl (Nat.le_of_ble_eq_true rfl) ⟨Nat.zero_le _, Nat.zero_le _⟩ d_Mo_work_26 ?_
      refine g_topi (congrArg bI (inBL_B v (by omega) (by omega))) ?_
      refine g_bif_eq E 51 d_Mo_work_29 (by decide) (fun h7 => ?_) (fun h7 => ?_)
      · refine g_iconst (v := nI 0) E d_Mo_work_51 (by decide) ?_
        refine g_istore (lv' := [(5, .int (nI 0)), (0, .ref (am 0)), (1, .int y), (2, .int k), (3, .int v), (4, .int q)]) E d_Mo_work_52 (by decide) rfl ?_
        refine g_aload_n E d_Mo_work_54 rfl 1 rfl ?_
        refine g_iload E d_Mo_work_55 0 rfl ?_
        refine g_nif_ne E 64 d_Mo_work_57 (by decide) (by decide) (fun h8 => absurd h8 (by decide)) (fun _ => ?_)
        refine g_iconst (v := nI 1) E d_Mo_work_60 (by decide) ?_
        refine g_goto E 78 d_Mo_work_61 (by decide) ?_
        refine gwVi (As := [.int (nI 1)]) (rest := []) (w' := wM V am 1 nY ix bu np st sr go ca nw yo ce wo po ne sv cl mk bg dp sh nx spn) (mc := 0) (ms := 0) E hA0 0 rfl rfl (C_Mo_refuses_1 l) (cs_Mo_85 E rfl rfl ⟨Nat.le_of_ble_eq_true rfl, Nat.le_of_ble_eq_true rfl⟩) rfl rfl (Nat.le_of_ble_eq_true rfl) ⟨Nat.zero_le _, Nat.zero_le _⟩ d_Mo_work_78 ?_
        refine g_nif_eq E 86 d_Mo_work_81 (by decide) (by decide) (fun h9 => absurd h9 (by decide)) (fun _ => ?_)
        refine g_iconst (v := nI 0) E d_Mo_work_84 (by decide) ?_
        exact g_iret E hr hlk d_Mo_work_85 (gq_wi (w1 := fun _ => wM V am 1 nY ix bu np st sr go ca nw yo ce wo po ne sv cl mk bg dp sh nx spn) () (rfl))
      · refine g_iload E d_Mo_work_32 4 rfl ?_
        refine g_iconst (v := oN none) E d_Mo_work_34 (by decide) ?_
        refine g_icmp_eq E 47 d_Mo_work_35 (by decide) (fun h10 => ?_) (fun h10 => ?_)
        · refine g_iconst (v := nI 1) E d_Mo_work_47 (by decide) ?_
          refine g_goto E 52 d_Mo_work_48 (by decide) ?_
          refine g_istore (lv' := [(5, .int (nI 1)), (0, .ref (am 0)), (1, .int y), (2, .int k), (3, .int v), (4, .int q)]) E d_Mo_work_52 (by decide) rfl ?_
          refine g_aload_n E d_Mo_work_54 rfl 1 rfl ?_
          refine g_iload E d_Mo_work_55 0 rfl ?_
          refine g_nif_ne E 64 d_Mo_work_57 (by decide) (by decide) (fun _ => ?_) (fun h11 => absurd h11 (by decide))
          refine g_aload_n E d_Mo_work_64 rfl 1 rfl ?_
          refine gf_Mo_75 E gO_w 0 rfl rfl d_Mo_work_65 ?_
          refine g_bipush (v := nI 10) E d_Mo_work_68 (by decide) ?_
          refine g_ncmp_ne E 77 d_Mo_work_70 (by decide) (by omega) (by omega) (fun h12 => ?_) (fun h12 => ?_)
          · exact absurd hb (by first | (simp [h1, h4, h7, h10, h12]; done) | simp_all)
          · exact absurd hb (by first | (simp [h1, h4, h7, h10, h12]; done) | simp_all)
        · refine g_aload_n E d_Mo_work_38 rfl 0 rfl ?_
          refine g_iload E d_Mo_work_39 4 rfl ?_
          refine gpVi (As := [.int q]) (rest := []) E gO_w 0 rfl rfl (C_Mo_isPart l q (by omega)) (cs_Mo_71 E rfl rfl ⟨Nat.le_of_ble_eq_true rfl, Nat.le_of_ble_eq_true rfl⟩) rfl rfl (Nat.le_of_ble_eq_true rfl) ⟨Nat.zero_le _, Nat.zero_le _⟩ d_Mo_work_41 ?_
          refine g_bif_eq E 51 d_Mo_work_44 (by decide) (fun h13 => ?_) (fun h13 => ?_)
          · refine g_iconst (v := nI 0) E d_Mo_work_51 (by decide) ?_
            refine g_istore (lv' := [(5, .int (nI 0)), (0, .ref (am 0)), (1, .int y), (2, .int k), (3, .int v), (4, .int q)]) E d_Mo_work_52 (by decide) rfl ?_
            refine g_aload_n E d_Mo_work_54 rfl 1 rfl ?_
            refine g_iload E d_Mo_work_55 0 rfl ?_
            refine g_nif_ne E 64 d_Mo_work_57 (by decide) (by decide) (fun h14 => absurd h14 (by decide)) (fun _ => ?_)
            refine g_iconst (v := nI 1) E d_Mo_work_60 (by decide) ?_
            refine g_goto E 78 d_Mo_work_61 (by decide) ?_
            refine gwVi (As := [.int (nI 1)]) (rest := []) (w' := wM V am 1 nY ix bu np st sr go ca nw yo ce wo po ne sv cl mk bg dp sh nx spn) (mc := 0) (ms := 0) E hA0 0 rfl rfl (C_Mo_refuses_1 l) (cs_Mo_85 E rfl rfl ⟨Nat.le_of_ble_eq_true rfl, Nat.le_of_ble_eq_true rfl⟩) rfl rfl (Nat.le_of_ble_eq_true rfl) ⟨Nat.zero_le _, Nat.zero_le _⟩ d_Mo_work_78 ?_
            refine g_nif_eq E 86 d_Mo_work_81 (by decide) (by decide) (fun h15 => absurd h15 (by decide)) (fun _ => ?_)
            refine g_iconst (v := nI 0) E d_Mo_work_84 (by decide) ?_
            exact g_iret E hr hlk d_Mo_work_85 (gq_wi (w1 := fun _ => wM V am 1 nY ix bu np st sr go ca nw yo ce wo po ne sv cl mk bg dp sh nx spn) () (rfl))
          · refine g_iconst (v := nI 1) E d_Mo_work_47 (by decide) ?_
            refine g_goto E 52 d_Mo_work_48 (by decide) ?_
            refine g_istore (lv' := [(5, .int (nI 1)), (0, .ref (am 0)), (1, .int y), (2, .int k), (3, .int v), (4, .int q)]) E d_Mo_work_52 (by decide) rfl ?_
            refine g_aload_n E d_Mo_work_54 rfl 1 rfl ?_
            refine g_iload E d_Mo_work_55 0 rfl ?_
            refine g_nif_ne E 64 d_Mo_work_57 (by decide) (by decide) (fun _ => ?_) (fun h16 => absurd h16 (by decide))
            refine g_aload_n E d_Mo_work_64 rfl 1 rfl ?_
            refine gf_Mo_75 E gO_w 0 rfl rfl d_Mo_work_65 ?_
            refine g_bipush (v := nI 10) E d_Mo_work_68 (by decide) ?_
            refine g_ncmp_ne E 77 d_Mo_work_70 (by decide) (by omega) (by omega) (fun h17 => ?_) (fun h17 => ?_)
            · exact absurd hb (by first | (simp [h1, h4, h7, h10, h13, h17]; done) | simp_all)
            · exact absurd hb (by first | (simp [h1, h4, h7, h10, h13, h17]; done) | simp_all)

set_option maxHeartbeats 4000000 in
set_option maxRecDepth 100000 in
theorem Y_Mo_work_2n (l : Launch) {V : gV} {am : Nat → Nat} {th nY : Nat} {ix bu : Nat → Nat} {np : Nat} {st sr go ca : Nat → Nat} {nw : Nat} {yo ce wo : Nat → Nat} {po ne : Nat → Option Nat} {sv : Nat → Nat} {cl : Nat → Bool} {mk bg dp : Nat} {sh nx : Nat → Nat} {spn : Int} (y : Nat) (k v : Int32)  (hy : y < nY) (hY : nY ≤ 12) (hnp : np ≤ 12) (hnw : nw ≤ 10) (hb : (inB k (nI 1) (nI 1000000) && inB v (nI 0) (nI 1000000)) = false) : mWi l y_Mo_work (w_Mo_work :: gt) rm_Mo_work V (wM V am th nY ix bu np st sr go ca nw yo ce wo po ne sv cl mk bg dp sh nx spn) [.ref (am 0), .int (nI y), .int k, .int v, .int (oN none)] (nI 0) (wM V am 1 nY ix bu np st sr go ca nw yo ce wo po ne sv cl mk bg dp sh nx spn) 0 0 := by
  intro sz
  refine gMet (V := V) (As := [.ref (am 0), .int (nI y), .int k, .int v, .int (oN none)]) (cc := c_Mo_work) (maxL := 6) (ret := (some .int)) (by decide) rfl (Nat.le_of_ble_eq_true rfl) (fun a U h => ⟨h.1, h.2.2.2.1⟩) ?_
  intro p e s m below meth c E hr hlk hnm hv
  refine g_toW (sz := sz) (w := wM V am th nY ix bu np st sr go ca nw yo ce wo po ne sv cl mk bg dp sh nx spn) hv.2.2.1 hv.2.2.2.2 ?_
  have hA0 : ∀ q : Nat, s.heap.size ≤ q → va_A (wM V am th nY ix bu np st sr go ca nw yo ce wo po ne sv cl mk bg dp sh nx spn) sz q := fun q h => Or.inr (by rw [← hv.2.1]; exact h)
  refine g_aload_n E d_Mo_work_0 rfl 0 rfl ?_
  refine g_iload_n E d_Mo_work_1 rfl 1 rfl ?_
  refine gpVi (As := [.int (nI y)]) (rest := []) E gO_w 0 rfl rfl (C_Mo_isYear l (nI y) (by omega)) (cs_Mo_78 E rfl rfl ⟨Nat.le_of_ble_eq_true rfl, Nat.le_of_ble_eq_true rfl⟩) rfl rfl (Nat.le_of_ble_eq_true rfl) ⟨Nat.zero_le _, Nat.zero_le _⟩ d_Mo_work_2 ?_
  refine g_topi (show bI _ = nI 1 from by rw [inR_y (by omega) (by omega)]; rfl) ?_
  refine g_nif_eq E 51 d_Mo_work_5 (by decide) (by decide) (fun h1 => absurd h1 (by decide)) (fun _ => ?_)
  refine g_iload_n E d_Mo_work_8 rfl 2 rfl ?_
  refine g_i2l E d_Mo_work_9 ?_
  refine g_lconst (v := lN 1) E d_Mo_work_10 (by decide) ?_
  refine g_ldc2 E kk_Mo_119 d_Mo_work_11 ?_
  refine g_topl (show ((1000000) : Int64) = lN 1000000 from by decide) ?_
  refine gpSi (As := [.long k.toInt64, .long (lN 1), .long (lN 1000000)]) (rest := []) E gO_w (C_Mo_within l k.toInt64 (lN 1) (lN 1000000)) (cs_Mo_64 E rfl rfl ⟨Nat.le_of_ble_eq_true rfl, Nat.le_of_ble_eq_true rfl⟩) rfl rfl (Nat.le_of_ble_eq_true rfl) ⟨Nat.zero_le _, Nat.zero_le _⟩ d_Mo_work_14 ?_
  refine g_topi (congrArg bI (inBL_B k (by omega) (by omega))) ?_
  refine g_bif_eq E 51 d_Mo_work_17 (by decide) (fun h2 => ?_) (fun h2 => ?_)
  · refine g_iconst (v := nI 0) E d_Mo_work_51 (by decide) ?_
    refine g_istore (lv' := [(5, .int (nI 0)), (0, .ref (am 0)), (1, .int (nI y)), (2, .int k), (3, .int v), (4, .int (oN none))]) E d_Mo_work_52 (by decide) rfl ?_
    refine g_aload_n E d_Mo_work_54 rfl 1 rfl ?_
    refine g_iload E d_Mo_work_55 0 rfl ?_
    refine g_nif_ne E 64 d_Mo_work_57 (by decide) (by decide) (fun h3 => absurd h3 (by decide)) (fun _ => ?_)
    refine g_iconst (v := nI 1) E d_Mo_work_60 (by decide) ?_
    refine g_goto E 78 d_Mo_work_61 (by decide) ?_
    refine gwVi (As := [.int (nI 1)]) (rest := []) (w' := wM V am 1 nY ix bu np st sr go ca nw yo ce wo po ne sv cl mk bg dp sh nx spn) (mc := 0) (ms := 0) E hA0 0 rfl rfl (C_Mo_refuses_1 l) (cs_Mo_85 E rfl rfl ⟨Nat.le_of_ble_eq_true rfl, Nat.le_of_ble_eq_true rfl⟩) rfl rfl (Nat.le_of_ble_eq_true rfl) ⟨Nat.zero_le _, Nat.zero_le _⟩ d_Mo_work_78 ?_
    refine g_nif_eq E 86 d_Mo_work_81 (by decide) (by decide) (fun h4 => absurd h4 (by decide)) (fun _ => ?_)
    refine g_iconst (v := nI 0) E d_Mo_work_84 (by decide) ?_
    exact g_iret E hr hlk d_Mo_work_85 (gq_wi (w1 := fun _ => wM V am 1 nY ix bu np st sr go ca nw yo ce wo po ne sv cl mk bg dp sh nx spn) () (rfl))
  · refine g_iload_n E d_Mo_work_20 rfl 3 rfl ?_
    refine g_i2l E d_Mo_work_21 ?_
    refine g_lconst (v := lN 0) E d_Mo_work_22 (by decide) ?_
    refine g_ldc2 E kk_Mo_119 d_Mo_work_23 ?_
    refine g_topl (show ((1000000) : Int64) = lN 1000000 from by decide) ?_
    refine gpSi (As := [.long v.toInt64, .long (lN 0), .long (lN 1000000)]) (rest := []) E gO_w (C_Mo_within l v.toInt64 (lN 0) (lN 1000000)) (cs_Mo_64 E rfl rfl ⟨Nat.le_of_ble_eq_true rfl, Nat.le_of_ble_eq_true rfl⟩) rfl rfl (Nat.le_of_ble_eq_true rfl) ⟨Nat.zero_le _, Nat.zero_le _⟩ d_Mo_work_26 ?_
    refine g_topi (congrArg bI (inBL_B v (by omega) (by omega))) ?_
    refine g_bif_eq E 51 d_Mo_work_29 (by decide) (fun h5 => ?_) (fun h5 => ?_)
    · refine g_iconst (v := nI 0) E d_Mo_work_51 (by decide) ?_
      refine g_istore (lv' := [(5, .int (nI 0)), (0, .ref (am 0)), (1, .int (nI y)), (2, .int k), (3, .int v), (4, .int (oN none))]) E d_Mo_work_52 (by decide) rfl ?_
      refine g_aload_n E d_Mo_work_54 rfl 1 rfl ?_
      refine g_iload E d_Mo_work_55 0 rfl ?_
      refine g_nif_ne E 64 d_Mo_work_57 (by decide) (by decide) (fun h6 => absurd h6 (by decide)) (fun _ => ?_)
      refine g_iconst (v := nI 1) E d_Mo_work_60 (by decide) ?_
      refine g_goto E 78 d_Mo_work_61 (by decide) ?_
      refine gwVi (As := [.int (nI 1)]) (rest := []) (w' := wM V am 1 nY ix bu np st sr go ca nw yo ce wo po ne sv cl mk bg dp sh nx spn) (mc := 0) (ms := 0) E hA0 0 rfl rfl (C_Mo_refuses_1 l) (cs_Mo_85 E rfl rfl ⟨Nat.le_of_ble_eq_true rfl, Nat.le_of_ble_eq_true rfl⟩) rfl rfl (Nat.le_of_ble_eq_true rfl) ⟨Nat.zero_le _, Nat.zero_le _⟩ d_Mo_work_78 ?_
      refine g_nif_eq E 86 d_Mo_work_81 (by decide) (by decide) (fun h7 => absurd h7 (by decide)) (fun _ => ?_)
      refine g_iconst (v := nI 0) E d_Mo_work_84 (by decide) ?_
      exact g_iret E hr hlk d_Mo_work_85 (gq_wi (w1 := fun _ => wM V am 1 nY ix bu np st sr go ca nw yo ce wo po ne sv cl mk bg dp sh nx spn) () (rfl))
    · refine g_iload E d_Mo_work_32 4 rfl ?_
      refine g_iconst (v := oN none) E d_Mo_work_34 (by decide) ?_
      refine g_icmp_eq E 47 d_Mo_work_35 (by decide) (fun h8 => ?_) (fun h8 => ?_)
      · refine g_iconst (v := nI 1) E d_Mo_work_47 (by decide) ?_
        refine g_goto E 52 d_Mo_work_48 (by decide) ?_
        refine g_istore (lv' := [(5, .int (nI 1)), (0, .ref (am 0)), (1, .int (nI y)), (2, .int k), (3, .int v), (4, .int (oN none))]) E d_Mo_work_52 (by decide) rfl ?_
        refine g_aload_n E d_Mo_work_54 rfl 1 rfl ?_
        refine g_iload E d_Mo_work_55 0 rfl ?_
        refine g_nif_ne E 64 d_Mo_work_57 (by decide) (by decide) (fun _ => ?_) (fun h9 => absurd h9 (by decide))
        refine g_aload_n E d_Mo_work_64 rfl 1 rfl ?_
        refine gf_Mo_75 E gO_w 0 rfl rfl d_Mo_work_65 ?_
        refine g_bipush (v := nI 10) E d_Mo_work_68 (by decide) ?_
        refine g_ncmp_ne E 77 d_Mo_work_70 (by decide) (by omega) (by omega) (fun h10 => ?_) (fun h10 => ?_)
        · exact absurd hb (by first | (simp [h2, h5, h8, h10]; done) | simp_all)
        · exact absurd hb (by first | (simp [h2, h5, h8, h10]; done) | simp_all)
      · exact absurd rfl h8

set_option maxHeartbeats 4000000 in
set_option maxRecDepth 100000 in
theorem Y_Mo_work_3n (l : Launch) {V : gV} {am : Nat → Nat} {th nY : Nat} {ix bu : Nat → Nat} {np : Nat} {st sr go ca : Nat → Nat} {nw : Nat} {yo ce wo : Nat → Nat} {po ne : Nat → Option Nat} {sv : Nat → Nat} {cl : Nat → Bool} {mk bg dp : Nat} {sh nx : Nat → Nat} {spn : Int} (y k v : Nat)  (hy : y < nY) (hY : nY ≤ 12) (hnp : np ≤ 12) (h1 : 1 ≤ k) (h2 : k ≤ 1000000) (h3 : v ≤ 1000000) (hnw : nw = 10) : mWi l y_Mo_work (w_Mo_work :: gt) rm_Mo_work V (wM V am th nY ix bu np st sr go ca nw yo ce wo po ne sv cl mk bg dp sh nx spn) [.ref (am 0), .int (nI y), .int (nI k), .int (nI v), .int (oN none)] (nI 0) (wM V am 2 nY ix bu np st sr go ca nw yo ce wo po ne sv cl mk bg dp sh nx spn) 0 0 := by
  intro sz
  refine gMet (V := V) (As := [.ref (am 0), .int (nI y), .int (nI k), .int (nI v), .int (oN none)]) (cc := c_Mo_work) (maxL := 6) (ret := (some .int)) (by decide) rfl (Nat.le_of_ble_eq_true rfl) (fun a U h => ⟨h.1, h.2.2.2.1⟩) ?_
  intro p e s m below meth c E hr hlk hnm hv
  refine g_toW (sz := sz) (w := wM V am th nY ix bu np st sr go ca nw yo ce wo po ne sv cl mk bg dp sh nx spn) hv.2.2.1 hv.2.2.2.2 ?_
  have hA0 : ∀ q : Nat, s.heap.size ≤ q → va_A (wM V am th nY ix bu np st sr go ca nw yo ce wo po ne sv cl mk bg dp sh nx spn) sz q := fun q h => Or.inr (by rw [← hv.2.1]; exact h)
  refine g_aload_n E d_Mo_work_0 rfl 0 rfl ?_
  refine g_iload_n E d_Mo_work_1 rfl 1 rfl ?_
  refine gpVi (As := [.int (nI y)]) (rest := []) E gO_w 0 rfl rfl (C_Mo_isYear l (nI y) (by omega)) (cs_Mo_78 E rfl rfl ⟨Nat.le_of_ble_eq_true rfl, Nat.le_of_ble_eq_true rfl⟩) rfl rfl (Nat.le_of_ble_eq_true rfl) ⟨Nat.zero_le _, Nat.zero_le _⟩ d_Mo_work_2 ?_
  refine g_topi (show bI _ = nI 1 from by rw [inR_y (by omega) (by omega)]; rfl) ?_
  refine g_nif_eq E 51 d_Mo_work_5 (by decide) (by decide) (fun h1 => absurd h1 (by decide)) (fun _ => ?_)
  refine g_iload_n E d_Mo_work_8 rfl 2 rfl ?_
  refine g_i2l E d_Mo_work_9 ?_
  refine g_topl (nI_l (by omega)) ?_
  refine g_lconst (v := lN 1) E d_Mo_work_10 (by decide) ?_
  refine g_ldc2 E kk_Mo_119 d_Mo_work_11 ?_
  refine g_topl (show ((1000000) : Int64) = lN 1000000 from by decide) ?_
  refine gpSi (As := [.long (lN k), .long (lN 1), .long (lN 1000000)]) (rest := []) E gO_w (C_Mo_within l (lN k) (lN 1) (lN 1000000)) (cs_Mo_64 E rfl rfl ⟨Nat.le_of_ble_eq_true rfl, Nat.le_of_ble_eq_true rfl⟩) rfl rfl (Nat.le_of_ble_eq_true rfl) ⟨Nat.zero_le _, Nat.zero_le _⟩ d_Mo_work_14 ?_
  refine g_topi (congrArg bI (inBL_N (by omega) (by omega) (by omega))) ?_
  refine g_topi (show bI _ = nI 1 from by rw [inB_y (by omega) (by omega) (by omega)]; rfl) ?_
  refine g_nif_eq E 51 d_Mo_work_17 (by decide) (by decide) (fun h2 => absurd h2 (by decide)) (fun _ => ?_)
  refine g_iload_n E d_Mo_work_20 rfl 3 rfl ?_
  refine g_i2l E d_Mo_work_21 ?_
  refine g_topl (nI_l (by omega)) ?_
  refine g_lconst (v := lN 0) E d_Mo_work_22 (by decide) ?_
  refine g_ldc2 E kk_Mo_119 d_Mo_work_23 ?_
  refine g_topl (show ((1000000) : Int64) = lN 1000000 from by decide) ?_
  refine gpSi (As := [.long (lN v), .long (lN 0), .long (lN 1000000)]) (rest := []) E gO_w (C_Mo_within l (lN v) (lN 0) (lN 1000000)) (cs_Mo_64 E rfl rfl ⟨Nat.le_of_ble_eq_true rfl, Nat.le_of_ble_eq_true rfl⟩) rfl rfl (Nat.le_of_ble_eq_true rfl) ⟨Nat.zero_le _, Nat.zero_le _⟩ d_Mo_work_26 ?_
  refine g_topi (congrArg bI (inBL_N (by omega) (by omega) (by omega))) ?_
  refine g_topi (show bI _ = nI 1 from by rw [inB_y (by omega) (by omega) (by omega)]; rfl) ?_
  refine g_nif_eq E 51 d_Mo_work_29 (by decide) (by decide) (fun h3 => absurd h3 (by decide)) (fun _ => ?_)
  refine g_iload E d_Mo_work_32 4 rfl ?_
  refine g_iconst (v := oN none) E d_Mo_work_34 (by decide) ?_
  refine g_icmp_eq E 47 d_Mo_work_35 (by decide) (fun h4 => ?_) (fun h4 => ?_)
  · refine g_iconst (v := nI 1) E d_Mo_work_47 (by decide) ?_
    refine g_goto E 52 d_Mo_work_48 (by decide) ?_
    refine g_istore (lv' := [(5, .int (nI 1)), (0, .ref (am 0)), (1, .int (nI y)), (2, .int (nI k)), (3, .int (nI v)), (4, .int (oN none))]) E d_Mo_work_52 (by decide) rfl ?_
    refine g_aload_n E d_Mo_work_54 rfl 1 rfl ?_
    refine g_iload E d_Mo_work_55 0 rfl ?_
    refine g_nif_ne E 64 d_Mo_work_57 (by decide) (by decide) (fun _ => ?_) (fun h5 => absurd h5 (by decide))
    refine g_aload_n E d_Mo_work_64 rfl 1 rfl ?_
    refine gf_Mo_75 E gO_w 0 rfl rfl d_Mo_work_65 ?_
    refine g_bipush (v := nI 10) E d_Mo_work_68 (by decide) ?_
    refine g_ncmp_ne E 77 d_Mo_work_70 (by decide) (by omega) (by omega) (fun h6 => ?_) (fun h6 => ?_)
    · exact absurd hnw h6
    · refine g_iconst (v := nI 2) E d_Mo_work_73 (by decide) ?_
      refine g_goto E 78 d_Mo_work_74 (by decide) ?_
      refine gwVi (As := [.int (nI 2)]) (rest := []) (w' := wM V am 2 nY ix bu np st sr go ca nw yo ce wo po ne sv cl mk bg dp sh nx spn) (mc := 0) (ms := 0) E hA0 0 rfl rfl (C_Mo_refuses_2 l) (cs_Mo_85 E rfl rfl ⟨Nat.le_of_ble_eq_true rfl, Nat.le_of_ble_eq_true rfl⟩) rfl rfl (Nat.le_of_ble_eq_true rfl) ⟨Nat.zero_le _, Nat.zero_le _⟩ d_Mo_work_78 ?_
      refine g_nif_eq E 86 d_Mo_work_81 (by decide) (by decide) (fun h7 => absurd h7 (by decide)) (fun _ => ?_)
      refine g_iconst (v := nI 0) E d_Mo_work_84 (by decide) ?_
      exact g_iret E hr hlk d_Mo_work_85 (gq_wi (w1 := fun _ => wM V am 2 nY ix bu np st sr go ca nw yo ce wo po ne sv cl mk bg dp sh nx spn) () (rfl))
  · exact absurd rfl h4

set_option maxHeartbeats 4000000 in
set_option maxRecDepth 100000 in
theorem Y_Mo_work_2s (l : Launch) {V : gV} {am : Nat → Nat} {th nY : Nat} {ix bu : Nat → Nat} {np : Nat} {st sr go ca : Nat → Nat} {nw : Nat} {yo ce wo : Nat → Nat} {po ne : Nat → Option Nat} {sv : Nat → Nat} {cl : Nat → Bool} {mk bg dp : Nat} {sh nx : Nat → Nat} {spn : Int} (y : Nat) (k v : Int32) (q : Nat) (hq : q < np) (hy : y < nY) (hY : nY ≤ 12) (hnp : np ≤ 12) (hnw : nw ≤ 10) (hb : (inB k (nI 1) (nI 1000000) && inB v (nI 0) (nI 1000000)) = false) : mWi l y_Mo_work (w_Mo_work :: gt) rm_Mo_work V (wM V am th nY ix bu np st sr go ca nw yo ce wo po ne sv cl mk bg dp sh nx spn) [.ref (am 0), .int (nI y), .int k, .int v, .int (nI q)] (nI 0) (wM V am 1 nY ix bu np st sr go ca nw yo ce wo po ne sv cl mk bg dp sh nx spn) 0 0 := by
  intro sz
  refine gMet (V := V) (As := [.ref (am 0), .int (nI y), .int k, .int v, .int (nI q)]) (cc := c_Mo_work) (maxL := 6) (ret := (some .int)) (by decide) rfl (Nat.le_of_ble_eq_true rfl) (fun a U h => ⟨h.1, h.2.2.2.1⟩) ?_
  intro p e s m below meth c E hr hlk hnm hv
  refine g_toW (sz := sz) (w := wM V am th nY ix bu np st sr go ca nw yo ce wo po ne sv cl mk bg dp sh nx spn) hv.2.2.1 hv.2.2.2.2 ?_
  have hA0 : ∀ q : Nat, s.heap.size ≤ q → va_A (wM V am th nY ix bu np st sr go ca nw yo ce wo po ne sv cl mk bg dp sh nx spn) sz q := fun q h => Or.inr (by rw [← hv.2.1]; exact h)
  refine g_aload_n E d_Mo_work_0 rfl 0 rfl ?_
  refine g_iload_n E d_Mo_work_1 rfl 1 rfl ?_
  refine gpVi (As := [.int (nI y)]) (rest := []) E gO_w 0 rfl rfl (C_Mo_isYear l (nI y) (by omega)) (cs_Mo_78 E rfl rfl ⟨Nat.le_of_ble_eq_true rfl, Nat.le_of_ble_eq_true rfl⟩) rfl rfl (Nat.le_of_ble_eq_true rfl) ⟨Nat.zero_le _, Nat.zero_le _⟩ d_Mo_work_2 ?_
  refine g_topi (show bI _ = nI 1 from by rw [inR_y (by omega) (by omega)]; rfl) ?_
  refine g_nif_eq E 51 d_Mo_work_5 (by decide) (by decide) (fun h1 => absurd h1 (by decide)) (fun _ => ?_)
  refine g_iload_n E d_Mo_work_8 rfl 2 rfl ?_
  refine g_i2l E d_Mo_work_9 ?_
  refine g_lconst (v := lN 1) E d_Mo_work_10 (by decide) ?_
  refine g_ldc2 E kk_Mo_119 d_Mo_work_11 ?_
  refine g_topl (show ((1000000) : Int64) = lN 1000000 from by decide) ?_
  refine gpSi (As := [.long k.toInt64, .long (lN 1), .long (lN 1000000)]) (rest := []) E gO_w (C_Mo_within l k.toInt64 (lN 1) (lN 1000000)) (cs_Mo_64 E rfl rfl ⟨Nat.le_of_ble_eq_true rfl, Nat.le_of_ble_eq_true rfl⟩) rfl rfl (Nat.le_of_ble_eq_true rfl) ⟨Nat.zero_le _, Nat.zero_le _⟩ d_Mo_work_14 ?_
  refine g_topi (congrArg bI (inBL_B k (by omega) (by omega))) ?_
  refine g_bif_eq E 51 d_Mo_work_17 (by decide) (fun h2 => ?_) (fun h2 => ?_)
  · refine g_iconst (v := nI 0) E d_Mo_work_51 (by decide) ?_
    refine g_istore (lv' := [(5, .int (nI 0)), (0, .ref (am 0)), (1, .int (nI y)), (2, .int k), (3, .int v), (4, .int (nI q))]) E d_Mo_work_52 (by decide) rfl ?_
    refine g_aload_n E d_Mo_work_54 rfl 1 rfl ?_
    refine g_iload E d_Mo_work_55 0 rfl ?_
    refine g_nif_ne E 64 d_Mo_work_57 (by decide) (by decide) (fun h3 => absurd h3 (by decide)) (fun _ => ?_)
    refine g_iconst (v := nI 1) E d_Mo_work_60 (by decide) ?_
    refine g_goto E 78 d_Mo_work_61 (by decide) ?_
    refine gwVi (As := [.int (nI 1)]) (rest := []) (w' := wM V am 1 nY ix bu np st sr go ca nw yo ce wo po ne sv cl mk bg dp sh nx spn) (mc := 0) (ms := 0) E hA0 0 rfl rfl (C_Mo_refuses_1 l) (cs_Mo_85 E rfl rfl ⟨Nat.le_of_ble_eq_true rfl, Nat.le_of_ble_eq_true rfl⟩) rfl rfl (Nat.le_of_ble_eq_true rfl) ⟨Nat.zero_le _, Nat.zero_le _⟩ d_Mo_work_78 ?_
    refine g_nif_eq E 86 d_Mo_work_81 (by decide) (by decide) (fun h4 => absurd h4 (by decide)) (fun _ => ?_)
    refine g_iconst (v := nI 0) E d_Mo_work_84 (by decide) ?_
    exact g_iret E hr hlk d_Mo_work_85 (gq_wi (w1 := fun _ => wM V am 1 nY ix bu np st sr go ca nw yo ce wo po ne sv cl mk bg dp sh nx spn) () (rfl))
  · refine g_iload_n E d_Mo_work_20 rfl 3 rfl ?_
    refine g_i2l E d_Mo_work_21 ?_
    refine g_lconst (v := lN 0) E d_Mo_work_22 (by decide) ?_
    refine g_ldc2 E kk_Mo_119 d_Mo_work_23 ?_
    refine g_topl (show ((1000000) : Int64) = lN 1000000 from by decide) ?_
    refine gpSi (As := [.long v.toInt64, .long (lN 0), .long (lN 1000000)]) (rest := []) E gO_w (C_Mo_within l v.toInt64 (lN 0) (lN 1000000)) (cs_Mo_64 E rfl rfl ⟨Nat.le_of_ble_eq_true rfl, Nat.le_of_ble_eq_true rfl⟩) rfl rfl (Nat.le_of_ble_eq_true rfl) ⟨Nat.zero_le _, Nat.zero_le _⟩ d_Mo_work_26 ?_
    refine g_topi (congrArg bI (inBL_B v (by omega) (by omega))) ?_
    refine g_bif_eq E 51 d_Mo_work_29 (by decide) (fun h5 => ?_) (fun h5 => ?_)
    · refine g_iconst (v := nI 0) E d_Mo_work_51 (by decide) ?_
      refine g_istore (lv' := [(5, .int (nI 0)), (0, .ref (am 0)), (1, .int (nI y)), (2, .int k), (3, .int v), (4, .int (nI q))]) E d_Mo_work_52 (by decide) rfl ?_
      refine g_aload_n E d_Mo_work_54 rfl 1 rfl ?_
      refine g_iload E d_Mo_work_55 0 rfl ?_
      refine g_nif_ne E 64 d_Mo_work_57 (by decide) (by decide) (fun h6 => absurd h6 (by decide)) (fun _ => ?_)
      refine g_iconst (v := nI 1) E d_Mo_work_60 (by decide) ?_
      refine g_goto E 78 d_Mo_work_61 (by decide) ?_
      refine gwVi (As := [.int (nI 1)]) (rest := []) (w' := wM V am 1 nY ix bu np st sr go ca nw yo ce wo po ne sv cl mk bg dp sh nx spn) (mc := 0) (ms := 0) E hA0 0 rfl rfl (C_Mo_refuses_1 l) (cs_Mo_85 E rfl rfl ⟨Nat.le_of_ble_eq_true rfl, Nat.le_of_ble_eq_true rfl⟩) rfl rfl (Nat.le_of_ble_eq_true rfl) ⟨Nat.zero_le _, Nat.zero_le _⟩ d_Mo_work_78 ?_
      refine g_nif_eq E 86 d_Mo_work_81 (by decide) (by decide) (fun h7 => absurd h7 (by decide)) (fun _ => ?_)
      refine g_iconst (v := nI 0) E d_Mo_work_84 (by decide) ?_
      exact g_iret E hr hlk d_Mo_work_85 (gq_wi (w1 := fun _ => wM V am 1 nY ix bu np st sr go ca nw yo ce wo po ne sv cl mk bg dp sh nx spn) () (rfl))
    · refine g_iload E d_Mo_work_32 4 rfl ?_
      refine g_iconst (v := oN none) E d_Mo_work_34 (by decide) ?_
      refine g_icmp_eq E 47 d_Mo_work_35 (by decide) (fun h8 => ?_) (fun h8 => ?_)
      · exact absurd h8 (by intro z; have := congrArg Int32.toInt z; rw [nI_toInt (by omega)] at this; have h2 : (oN none).toInt = -1 := (by decide); omega)
      · refine g_aload_n E d_Mo_work_38 rfl 0 rfl ?_
        refine g_iload E d_Mo_work_39 4 rfl ?_
        refine gpVi (As := [.int (nI q)]) (rest := []) E gO_w 0 rfl rfl (C_Mo_isPart l (nI q) (by omega)) (cs_Mo_71 E rfl rfl ⟨Nat.le_of_ble_eq_true rfl, Nat.le_of_ble_eq_true rfl⟩) rfl rfl (Nat.le_of_ble_eq_true rfl) ⟨Nat.zero_le _, Nat.zero_le _⟩ d_Mo_work_41 ?_
        refine g_topi (show bI _ = nI 1 from by rw [inR_y (by omega) (by omega)]; rfl) ?_
        refine g_nif_eq E 51 d_Mo_work_44 (by decide) (by decide) (fun h9 => absurd h9 (by decide)) (fun _ => ?_)
        refine g_iconst (v := nI 1) E d_Mo_work_47 (by decide) ?_
        refine g_goto E 52 d_Mo_work_48 (by decide) ?_
        refine g_istore (lv' := [(5, .int (nI 1)), (0, .ref (am 0)), (1, .int (nI y)), (2, .int k), (3, .int v), (4, .int (nI q))]) E d_Mo_work_52 (by decide) rfl ?_
        refine g_aload_n E d_Mo_work_54 rfl 1 rfl ?_
        refine g_iload E d_Mo_work_55 0 rfl ?_
        refine g_nif_ne E 64 d_Mo_work_57 (by decide) (by decide) (fun _ => ?_) (fun h10 => absurd h10 (by decide))
        refine g_aload_n E d_Mo_work_64 rfl 1 rfl ?_
        refine gf_Mo_75 E gO_w 0 rfl rfl d_Mo_work_65 ?_
        refine g_bipush (v := nI 10) E d_Mo_work_68 (by decide) ?_
        refine g_ncmp_ne E 77 d_Mo_work_70 (by decide) (by omega) (by omega) (fun h11 => ?_) (fun h11 => ?_)
        · exact absurd hb (by first | (simp [h2, h5, h8, h11]; done) | simp_all)
        · exact absurd hb (by first | (simp [h2, h5, h8, h11]; done) | simp_all)

set_option maxHeartbeats 4000000 in
set_option maxRecDepth 100000 in
theorem Y_Mo_work_3s (l : Launch) {V : gV} {am : Nat → Nat} {th nY : Nat} {ix bu : Nat → Nat} {np : Nat} {st sr go ca : Nat → Nat} {nw : Nat} {yo ce wo : Nat → Nat} {po ne : Nat → Option Nat} {sv : Nat → Nat} {cl : Nat → Bool} {mk bg dp : Nat} {sh nx : Nat → Nat} {spn : Int} (y k v : Nat) (q : Nat) (hq : q < np) (hy : y < nY) (hY : nY ≤ 12) (hnp : np ≤ 12) (h1 : 1 ≤ k) (h2 : k ≤ 1000000) (h3 : v ≤ 1000000) (hnw : nw = 10) : mWi l y_Mo_work (w_Mo_work :: gt) rm_Mo_work V (wM V am th nY ix bu np st sr go ca nw yo ce wo po ne sv cl mk bg dp sh nx spn) [.ref (am 0), .int (nI y), .int (nI k), .int (nI v), .int (nI q)] (nI 0) (wM V am 2 nY ix bu np st sr go ca nw yo ce wo po ne sv cl mk bg dp sh nx spn) 0 0 := by
  intro sz
  refine gMet (V := V) (As := [.ref (am 0), .int (nI y), .int (nI k), .int (nI v), .int (nI q)]) (cc := c_Mo_work) (maxL := 6) (ret := (some .int)) (by decide) rfl (Nat.le_of_ble_eq_true rfl) (fun a U h => ⟨h.1, h.2.2.2.1⟩) ?_
  intro p e s m below meth c E hr hlk hnm hv
  refine g_toW (sz := sz) (w := wM V am th nY ix bu np st sr go ca nw yo ce wo po ne sv cl mk bg dp sh nx spn) hv.2.2.1 hv.2.2.2.2 ?_
  have hA0 : ∀ q : Nat, s.heap.size ≤ q → va_A (wM V am th nY ix bu np st sr go ca nw yo ce wo po ne sv cl mk bg dp sh nx spn) sz q := fun q h => Or.inr (by rw [← hv.2.1]; exact h)
  refine g_aload_n E d_Mo_work_0 rfl 0 rfl ?_
  refine g_iload_n E d_Mo_work_1 rfl 1 rfl ?_
  refine gpVi (As := [.int (nI y)]) (rest := []) E gO_w 0 rfl rfl (C_Mo_isYear l (nI y) (by omega)) (cs_Mo_78 E rfl rfl ⟨Nat.le_of_ble_eq_true rfl, Nat.le_of_ble_eq_true rfl⟩) rfl rfl (Nat.le_of_ble_eq_true rfl) ⟨Nat.zero_le _, Nat.zero_le _⟩ d_Mo_work_2 ?_
  refine g_topi (show bI _ = nI 1 from by rw [inR_y (by omega) (by omega)]; rfl) ?_
  refine g_nif_eq E 51 d_Mo_work_5 (by decide) (by decide) (fun h1 => absurd h1 (by decide)) (fun _ => ?_)
  refine g_iload_n E d_Mo_work_8 rfl 2 rfl ?_
  refine g_i2l E d_Mo_work_9 ?_
  refine g_topl (nI_l (by omega)) ?_
  refine g_lconst (v := lN 1) E d_Mo_work_10 (by decide) ?_
  refine g_ldc2 E kk_Mo_119 d_Mo_work_11 ?_
  refine g_topl (show ((1000000) : Int64) = lN 1000000 from by decide) ?_
  refine gpSi (As := [.long (lN k), .long (lN 1), .long (lN 1000000)]) (rest := []) E gO_w (C_Mo_within l (lN k) (lN 1) (lN 1000000)) (cs_Mo_64 E rfl rfl ⟨Nat.le_of_ble_eq_true rfl, Nat.le_of_ble_eq_true rfl⟩) rfl rfl (Nat.le_of_ble_eq_true rfl) ⟨Nat.zero_le _, Nat.zero_le _⟩ d_Mo_work_14 ?_
  refine g_topi (congrArg bI (inBL_N (by omega) (by omega) (by omega))) ?_
  refine g_topi (show bI _ = nI 1 from by rw [inB_y (by omega) (by omega) (by omega)]; rfl) ?_
  refine g_nif_eq E 51 d_Mo_work_17 (by decide) (by decide) (fun h2 => absurd h2 (by decide)) (fun _ => ?_)
  refine g_iload_n E d_Mo_work_20 rfl 3 rfl ?_
  refine g_i2l E d_Mo_work_21 ?_
  refine g_topl (nI_l (by omega)) ?_
  refine g_lconst (v := lN 0) E d_Mo_work_22 (by decide) ?_
  refine g_ldc2 E kk_Mo_119 d_Mo_work_23 ?_
  refine g_topl (show ((1000000) : Int64) = lN 1000000 from by decide) ?_
  refine gpSi (As := [.long (lN v), .long (lN 0), .long (lN 1000000)]) (rest := []) E gO_w (C_Mo_within l (lN v) (lN 0) (lN 1000000)) (cs_Mo_64 E rfl rfl ⟨Nat.le_of_ble_eq_true rfl, Nat.le_of_ble_eq_true rfl⟩) rfl rfl (Nat.le_of_ble_eq_true rfl) ⟨Nat.zero_le _, Nat.zero_le _⟩ d_Mo_work_26 ?_
  refine g_topi (congrArg bI (inBL_N (by omega) (by omega) (by omega))) ?_
  refine g_topi (show bI _ = nI 1 from by rw [inB_y (by omega) (by omega) (by omega)]; rfl) ?_
  refine g_nif_eq E 51 d_Mo_work_29 (by decide) (by decide) (fun h3 => absurd h3 (by decide)) (fun _ => ?_)
  refine g_iload E d_Mo_work_32 4 rfl ?_
  refine g_iconst (v := oN none) E d_Mo_work_34 (by decide) ?_
  refine g_icmp_eq E 47 d_Mo_work_35 (by decide) (fun h4 => ?_) (fun h4 => ?_)
  · exact absurd h4 (by intro z; have := congrArg Int32.toInt z; rw [nI_toInt (by omega)] at this; have h2 : (oN none).toInt = -1 := (by decide); omega)
  · refine g_aload_n E d_Mo_work_38 rfl 0 rfl ?_
    refine g_iload E d_Mo_work_39 4 rfl ?_
    refine gpVi (As := [.int (nI q)]) (rest := []) E gO_w 0 rfl rfl (C_Mo_isPart l (nI q) (by omega)) (cs_Mo_71 E rfl rfl ⟨Nat.le_of_ble_eq_true rfl, Nat.le_of_ble_eq_true rfl⟩) rfl rfl (Nat.le_of_ble_eq_true rfl) ⟨Nat.zero_le _, Nat.zero_le _⟩ d_Mo_work_41 ?_
    refine g_topi (show bI _ = nI 1 from by rw [inR_y (by omega) (by omega)]; rfl) ?_
    refine g_nif_eq E 51 d_Mo_work_44 (by decide) (by decide) (fun h5 => absurd h5 (by decide)) (fun _ => ?_)
    refine g_iconst (v := nI 1) E d_Mo_work_47 (by decide) ?_
    refine g_goto E 52 d_Mo_work_48 (by decide) ?_
    refine g_istore (lv' := [(5, .int (nI 1)), (0, .ref (am 0)), (1, .int (nI y)), (2, .int (nI k)), (3, .int (nI v)), (4, .int (nI q))]) E d_Mo_work_52 (by decide) rfl ?_
    refine g_aload_n E d_Mo_work_54 rfl 1 rfl ?_
    refine g_iload E d_Mo_work_55 0 rfl ?_
    refine g_nif_ne E 64 d_Mo_work_57 (by decide) (by decide) (fun _ => ?_) (fun h6 => absurd h6 (by decide))
    refine g_aload_n E d_Mo_work_64 rfl 1 rfl ?_
    refine gf_Mo_75 E gO_w 0 rfl rfl d_Mo_work_65 ?_
    refine g_bipush (v := nI 10) E d_Mo_work_68 (by decide) ?_
    refine g_ncmp_ne E 77 d_Mo_work_70 (by decide) (by omega) (by omega) (fun h7 => ?_) (fun h7 => ?_)
    · exact absurd hnw h7
    · refine g_iconst (v := nI 2) E d_Mo_work_73 (by decide) ?_
      refine g_goto E 78 d_Mo_work_74 (by decide) ?_
      refine gwVi (As := [.int (nI 2)]) (rest := []) (w' := wM V am 2 nY ix bu np st sr go ca nw yo ce wo po ne sv cl mk bg dp sh nx spn) (mc := 0) (ms := 0) E hA0 0 rfl rfl (C_Mo_refuses_2 l) (cs_Mo_85 E rfl rfl ⟨Nat.le_of_ble_eq_true rfl, Nat.le_of_ble_eq_true rfl⟩) rfl rfl (Nat.le_of_ble_eq_true rfl) ⟨Nat.zero_le _, Nat.zero_le _⟩ d_Mo_work_78 ?_
      refine g_nif_eq E 86 d_Mo_work_81 (by decide) (by decide) (fun h8 => absurd h8 (by decide)) (fun _ => ?_)
      refine g_iconst (v := nI 0) E d_Mo_work_84 (by decide) ?_
      exact g_iret E hr hlk d_Mo_work_85 (gq_wi (w1 := fun _ => wM V am 2 nY ix bu np st sr go ca nw yo ce wo po ne sv cl mk bg dp sh nx spn) () (rfl))

set_option maxHeartbeats 4000000 in
set_option maxRecDepth 100000 in
theorem Y_Mo_join_1 (l : Launch) {V : gV} {am : Nat → Nat} {th nY : Nat} {ix bu : Nat → Nat} {np : Nat} {st sr go ca : Nat → Nat} {nw : Nat} {yo ce wo : Nat → Nat} {po ne : Nat → Option Nat} {sv : Nat → Nat} {cl : Nat → Bool} {mk bg dp : Nat} {sh nx : Nat → Nat} {spn : Int} (a b v : Int32) (hnw : nw ≤ 10) (hb : twoW nw a b = false) : mWi l y_Mo_join (w_Mo_join :: gt) rm_Mo_join V (wM V am th nY ix bu np st sr go ca nw yo ce wo po ne sv cl mk bg dp sh nx spn) [.ref (am 0), .int a, .int b, .int v] (nI 0) (wM V am 1 nY ix bu np st sr go ca nw yo ce wo po ne sv cl mk bg dp sh nx spn) 0 0 := by
  intro sz
  refine gMet (V := V) (As := [.ref (am 0), .int a, .int b, .int v]) (cc := c_Mo_join) (maxL := 5) (ret := (some .int)) (by decide) rfl (Nat.le_of_ble_eq_true rfl) (fun a U h => ⟨h.1, h.2.2.2.1⟩) ?_
  intro p e s m below meth c E hr hlk hnm hv
  refine g_toW (sz := sz) (w := wM V am th nY ix bu np st sr go ca nw yo ce wo po ne sv cl mk bg dp sh nx spn) hv.2.2.1 hv.2.2.2.2 ?_
  have hA0 : ∀ q : Nat, s.heap.size ≤ q → va_A (wM V am th nY ix bu np st sr go ca nw yo ce wo po ne sv cl mk bg dp sh nx spn) sz q := fun q h => Or.inr (by rw [← hv.2.1]; exact h)
  refine g_aload_n E d_Mo_join_0 rfl 0 rfl ?_
  refine g_aload_n E d_Mo_join_1 rfl 0 rfl ?_
  refine g_iload_n E d_Mo_join_2 rfl 1 rfl ?_
  refine g_iload_n E d_Mo_join_3 rfl 2 rfl ?_
  refine gpVi (As := [.int a, .int b]) (rest := [.ref (am 0)]) E gO_w 0 rfl rfl (C_Mo_areTwo l a b (by omega)) (cs_Mo_124 E rfl rfl ⟨Nat.le_of_ble_eq_true rfl, Nat.le_of_ble_eq_true rfl⟩) rfl rfl (Nat.le_of_ble_eq_true rfl) ⟨Nat.zero_le _, Nat.zero_le _⟩ d_Mo_join_4 ?_
  refine g_topi (show bI _ = nI 0 from by rw [hb]; rfl) ?_
  refine g_nif_eq E 26 d_Mo_join_7 (by decide) (by decide) (fun _ => ?_) (fun h1 => absurd h1 (by decide))
  refine g_iconst (v := nI 1) E d_Mo_join_26 (by decide) ?_
  refine gwVi (As := [.int (nI 1)]) (rest := []) (w' := wM V am 1 nY ix bu np st sr go ca nw yo ce wo po ne sv cl mk bg dp sh nx spn) (mc := 0) (ms := 0) E hA0 0 rfl rfl (C_Mo_refuses_1 l) (cs_Mo_85 E rfl rfl ⟨Nat.le_of_ble_eq_true rfl, Nat.le_of_ble_eq_true rfl⟩) rfl rfl (Nat.le_of_ble_eq_true rfl) ⟨Nat.zero_le _, Nat.zero_le _⟩ d_Mo_join_27 ?_
  refine g_nif_eq E 35 d_Mo_join_30 (by decide) (by decide) (fun h2 => absurd h2 (by decide)) (fun _ => ?_)
  refine g_iconst (v := nI 0) E d_Mo_join_33 (by decide) ?_
  exact g_iret E hr hlk d_Mo_join_34 (gq_wi (w1 := fun _ => wM V am 1 nY ix bu np st sr go ca nw yo ce wo po ne sv cl mk bg dp sh nx spn) () (rfl))

set_option maxHeartbeats 4000000 in
set_option maxRecDepth 100000 in
theorem Y_Mo_join_2 (l : Launch) {V : gV} {am : Nat → Nat} {th nY : Nat} {ix bu : Nat → Nat} {np : Nat} {st sr go ca : Nat → Nat} {nw : Nat} {yo ce wo : Nat → Nat} {po ne : Nat → Option Nat} {sv : Nat → Nat} {cl : Nat → Bool} {mk bg dp : Nat} {sh nx : Nat → Nat} {spn : Int} (a b : Nat) (v : Int32) (ha : a < nw) (hbw : b < nw) (hab : a ≠ b) (hnw : nw ≤ 10) (hb : inB v (nI 0) (nI 1000000) = false) : mWi l y_Mo_join (w_Mo_join :: gt) rm_Mo_join V (wM V am th nY ix bu np st sr go ca nw yo ce wo po ne sv cl mk bg dp sh nx spn) [.ref (am 0), .int (nI a), .int (nI b), .int v] (nI 0) (wM V am 1 nY ix bu np st sr go ca nw yo ce wo po ne sv cl mk bg dp sh nx spn) 0 0 := by
  intro sz
  refine gMet (V := V) (As := [.ref (am 0), .int (nI a), .int (nI b), .int v]) (cc := c_Mo_join) (maxL := 5) (ret := (some .int)) (by decide) rfl (Nat.le_of_ble_eq_true rfl) (fun a U h => ⟨h.1, h.2.2.2.1⟩) ?_
  intro p e s m below meth c E hr hlk hnm hv
  refine g_toW (sz := sz) (w := wM V am th nY ix bu np st sr go ca nw yo ce wo po ne sv cl mk bg dp sh nx spn) hv.2.2.1 hv.2.2.2.2 ?_
  have hA0 : ∀ q : Nat, s.heap.size ≤ q → va_A (wM V am th nY ix bu np st sr go ca nw yo ce wo po ne sv cl mk bg dp sh nx spn) sz q := fun q h => Or.inr (by rw [← hv.2.1]; exact h)
  refine g_aload_n E d_Mo_join_0 rfl 0 rfl ?_
  refine g_aload_n E d_Mo_join_1 rfl 0 rfl ?_
  refine g_iload_n E d_Mo_join_2 rfl 1 rfl ?_
  refine g_iload_n E d_Mo_join_3 rfl 2 rfl ?_
  refine gpVi (As := [.int (nI a), .int (nI b)]) (rest := [.ref (am 0)]) E gO_w 0 rfl rfl (C_Mo_areTwo l (nI a) (nI b) (by omega)) (cs_Mo_124 E rfl rfl ⟨Nat.le_of_ble_eq_true rfl, Nat.le_of_ble_eq_true rfl⟩) rfl rfl (Nat.le_of_ble_eq_true rfl) ⟨Nat.zero_le _, Nat.zero_le _⟩ d_Mo_join_4 ?_
  refine g_topi (show bI _ = nI 1 from by rw [twoW_y (by omega) (by omega) (by omega) (by omega)]; rfl) ?_
  refine g_nif_eq E 26 d_Mo_join_7 (by decide) (by decide) (fun h1 => absurd h1 (by decide)) (fun _ => ?_)
  refine g_iload_n E d_Mo_join_10 rfl 3 rfl ?_
  refine g_i2l E d_Mo_join_11 ?_
  refine g_lconst (v := lN 0) E d_Mo_join_12 (by decide) ?_
  refine g_ldc2 E kk_Mo_119 d_Mo_join_13 ?_
  refine g_topl (show ((1000000) : Int64) = lN 1000000 from by decide) ?_
  refine gpSi (As := [.long v.toInt64, .long (lN 0), .long (lN 1000000)]) (rest := [.ref (am 0)]) E gO_w (C_Mo_within l v.toInt64 (lN 0) (lN 1000000)) (cs_Mo_64 E rfl rfl ⟨Nat.le_of_ble_eq_true rfl, Nat.le_of_ble_eq_true rfl⟩) rfl rfl (Nat.le_of_ble_eq_true rfl) ⟨Nat.zero_le _, Nat.zero_le _⟩ d_Mo_join_16 ?_
  refine g_topi (congrArg bI (inBL_B v (by omega) (by omega))) ?_
  refine g_topi (show bI _ = nI 0 from by rw [hb]; rfl) ?_
  refine g_nif_eq E 26 d_Mo_join_19 (by decide) (by decide) (fun _ => ?_) (fun h2 => absurd h2 (by decide))
  refine g_iconst (v := nI 1) E d_Mo_join_26 (by decide) ?_
  refine gwVi (As := [.int (nI 1)]) (rest := []) (w' := wM V am 1 nY ix bu np st sr go ca nw yo ce wo po ne sv cl mk bg dp sh nx spn) (mc := 0) (ms := 0) E hA0 0 rfl rfl (C_Mo_refuses_1 l) (cs_Mo_85 E rfl rfl ⟨Nat.le_of_ble_eq_true rfl, Nat.le_of_ble_eq_true rfl⟩) rfl rfl (Nat.le_of_ble_eq_true rfl) ⟨Nat.zero_le _, Nat.zero_le _⟩ d_Mo_join_27 ?_
  refine g_nif_eq E 35 d_Mo_join_30 (by decide) (by decide) (fun h3 => absurd h3 (by decide)) (fun _ => ?_)
  refine g_iconst (v := nI 0) E d_Mo_join_33 (by decide) ?_
  exact g_iret E hr hlk d_Mo_join_34 (gq_wi (w1 := fun _ => wM V am 1 nY ix bu np st sr go ca nw yo ce wo po ne sv cl mk bg dp sh nx spn) () (rfl))

set_option maxHeartbeats 4000000 in
set_option maxRecDepth 100000 in
theorem Y_Mo_clash (l : Launch) {V : gV} {am : Nat → Nat} {th nY : Nat} {ix bu : Nat → Nat} {np : Nat} {st sr go ca : Nat → Nat} {nw : Nat} {yo ce wo : Nat → Nat} {po ne : Nat → Option Nat} {sv : Nat → Nat} {cl : Nat → Bool} {mk bg dp : Nat} {sh nx : Nat → Nat} {spn : Int} (a b : Int32) (q : Bool) (hnw : nw ≤ 10) (hb : twoW nw a b = false) : mWi l y_Mo_clash (w_Mo_clash :: gt) rm_Mo_clash V (wM V am th nY ix bu np st sr go ca nw yo ce wo po ne sv cl mk bg dp sh nx spn) [.ref (am 0), .int a, .int b, .int (bI q)] (nI 0) (wM V am 1 nY ix bu np st sr go ca nw yo ce wo po ne sv cl mk bg dp sh nx spn) 0 0 := by
  intro sz
  refine gMet (V := V) (As := [.ref (am 0), .int a, .int b, .int (bI q)]) (cc := c_Mo_clash) (maxL := 5) (ret := (some .boolean)) (by decide) rfl (Nat.le_of_ble_eq_true rfl) (fun a U h => ⟨h.1, h.2.2.2.1⟩) ?_
  intro p e s m below meth c E hr hlk hnm hv
  refine g_toW (sz := sz) (w := wM V am th nY ix bu np st sr go ca nw yo ce wo po ne sv cl mk bg dp sh nx spn) hv.2.2.1 hv.2.2.2.2 ?_
  have hA0 : ∀ q : Nat, s.heap.size ≤ q → va_A (wM V am th nY ix bu np st sr go ca nw yo ce wo po ne sv cl mk bg dp sh nx spn) sz q := fun q h => Or.inr (by rw [← hv.2.1]; exact h)
  refine g_aload_n E d_Mo_clash_0 rfl 0 rfl ?_
  refine g_aload_n E d_Mo_clash_1 rfl 0 rfl ?_
  refine g_iload_n E d_Mo_clash_2 rfl 1 rfl ?_
  refine g_iload_n E d_Mo_clash_3 rfl 2 rfl ?_
  refine gpVi (As := [.int a, .int b]) (rest := [.ref (am 0)]) E gO_w 0 rfl rfl (C_Mo_areTwo l a b (by omega)) (cs_Mo_124 E rfl rfl ⟨Nat.le_of_ble_eq_true rfl, Nat.le_of_ble_eq_true rfl⟩) rfl rfl (Nat.le_of_ble_eq_true rfl) ⟨Nat.zero_le _, Nat.zero_le _⟩ d_Mo_clash_4 ?_
  refine g_topi (show bI _ = nI 0 from by rw [hb]; rfl) ?_
  refine g_nif_eq E 14 d_Mo_clash_7 (by decide) (by decide) (fun _ => ?_) (fun h1 => absurd h1 (by decide))
  refine g_iconst (v := nI 1) E d_Mo_clash_14 (by decide) ?_
  refine gwVi (As := [.int (nI 1)]) (rest := []) (w' := wM V am 1 nY ix bu np st sr go ca nw yo ce wo po ne sv cl mk bg dp sh nx spn) (mc := 0) (ms := 0) E hA0 0 rfl rfl (C_Mo_refuses_1 l) (cs_Mo_85 E rfl rfl ⟨Nat.le_of_ble_eq_true rfl, Nat.le_of_ble_eq_true rfl⟩) rfl rfl (Nat.le_of_ble_eq_true rfl) ⟨Nat.zero_le _, Nat.zero_le _⟩ d_Mo_clash_15 ?_
  refine g_nif_eq E 23 d_Mo_clash_18 (by decide) (by decide) (fun h2 => absurd h2 (by decide)) (fun _ => ?_)
  refine g_iconst (v := nI 0) E d_Mo_clash_21 (by decide) ?_
  exact g_zret E hr hlk d_Mo_clash_22 (Or.inl rfl) (gq_wi (w1 := fun _ => wM V am 1 nY ix bu np st sr go ca nw yo ce wo po ne sv cl mk bg dp sh nx spn) () (rfl))

set_option maxHeartbeats 4000000 in
set_option maxRecDepth 100000 in
theorem Y_Mo_needs (l : Launch) {V : gV} {am : Nat → Nat} {th nY : Nat} {ix bu : Nat → Nat} {np : Nat} {st sr go ca : Nat → Nat} {nw : Nat} {yo ce wo : Nat → Nat} {po ne : Nat → Option Nat} {sv : Nat → Nat} {cl : Nat → Bool} {mk bg dp : Nat} {sh nx : Nat → Nat} {spn : Int} (a q : Int32) (hnw : nw ≤ 10) (hb : (inR a (nI nw) && (decide (q = oN none) || inR q (nI nw)) && !decide (a = q)) = false) : mWi l y_Mo_needs (w_Mo_needs :: gt) rm_Mo_needs V (wM V am th nY ix bu np st sr go ca nw yo ce wo po ne sv cl mk bg dp sh nx spn) [.ref (am 0), .int a, .int q] (nI 0) (wM V am 1 nY ix bu np st sr go ca nw yo ce wo po ne sv cl mk bg dp sh nx spn) 0 0 := by
  intro sz
  refine gMet (V := V) (As := [.ref (am 0), .int a, .int q]) (cc := c_Mo_needs) (maxL := 4) (ret := (some .int)) (by decide) rfl (Nat.le_of_ble_eq_true rfl) (fun a U h => ⟨h.1, h.2.2.2.1⟩) ?_
  intro p e s m below meth c E hr hlk hnm hv
  refine g_toW (sz := sz) (w := wM V am th nY ix bu np st sr go ca nw yo ce wo po ne sv cl mk bg dp sh nx spn) hv.2.2.1 hv.2.2.2.2 ?_
  have hA0 : ∀ q : Nat, s.heap.size ≤ q → va_A (wM V am th nY ix bu np st sr go ca nw yo ce wo po ne sv cl mk bg dp sh nx spn) sz q := fun q h => Or.inr (by rw [← hv.2.1]; exact h)
  refine g_aload_n E d_Mo_needs_0 rfl 0 rfl ?_
  refine g_aload_n E d_Mo_needs_1 rfl 0 rfl ?_
  refine g_iload_n E d_Mo_needs_2 rfl 1 rfl ?_
  refine gpVi (As := [.int a]) (rest := [.ref (am 0)]) E gO_w 0 rfl rfl (C_Mo_isWork l a (by omega)) (cs_Mo_121 E rfl rfl ⟨Nat.le_of_ble_eq_true rfl, Nat.le_of_ble_eq_true rfl⟩) rfl rfl (Nat.le_of_ble_eq_true rfl) ⟨Nat.zero_le _, Nat.zero_le _⟩ d_Mo_needs_3 ?_
  refine g_bif_eq E 27 d_Mo_needs_6 (by decide) (fun h1 => ?_) (fun h1 => ?_)
  · refine g_iconst (v := nI 1) E d_Mo_needs_27 (by decide) ?_
    refine gwVi (As := [.int (nI 1)]) (rest := []) (w' := wM V am 1 nY ix bu np st sr go ca nw yo ce wo po ne sv cl mk bg dp sh nx spn) (mc := 0) (ms := 0) E hA0 0 rfl rfl (C_Mo_refuses_1 l) (cs_Mo_85 E rfl rfl ⟨Nat.le_of_ble_eq_true rfl, Nat.le_of_ble_eq_true rfl⟩) rfl rfl (Nat.le_of_ble_eq_true rfl) ⟨Nat.zero_le _, Nat.zero_le _⟩ d_Mo_needs_28 ?_
    refine g_nif_eq E 36 d_Mo_needs_31 (by decide) (by decide) (fun h2 => absurd h2 (by decide)) (fun _ => ?_)
    refine g_iconst (v := nI 0) E d_Mo_needs_34 (by decide) ?_
    exact g_iret E hr hlk d_Mo_needs_35 (gq_wi (w1 := fun _ => wM V am 1 nY ix bu np st sr go ca nw yo ce wo po ne sv cl mk bg dp sh nx spn) () (rfl))
  · refine g_iload_n E d_Mo_needs_9 rfl 2 rfl ?_
    refine g_iconst (v := oN none) E d_Mo_needs_10 (by decide) ?_
    refine g_icmp_eq E 23 d_Mo_needs_11 (by decide) (fun h3 => ?_) (fun h3 => ?_)
    · refine g_iconst (v := nI 0) E d_Mo_needs_23 (by decide) ?_
      refine g_goto E 28 d_Mo_needs_24 (by decide) ?_
      exact absurd hb (nd1 hnw h1 h3)
    · refine g_aload_n E d_Mo_needs_14 rfl 0 rfl ?_
      refine g_iload_n E d_Mo_needs_15 rfl 1 rfl ?_
      refine g_iload_n E d_Mo_needs_16 rfl 2 rfl ?_
      refine gpVi (As := [.int a, .int q]) (rest := [.ref (am 0)]) E gO_w 0 rfl rfl (C_Mo_areTwo l a q (by omega)) (cs_Mo_124 E rfl rfl ⟨Nat.le_of_ble_eq_true rfl, Nat.le_of_ble_eq_true rfl⟩) rfl rfl (Nat.le_of_ble_eq_true rfl) ⟨Nat.zero_le _, Nat.zero_le _⟩ d_Mo_needs_17 ?_
      refine g_bif_eq E 27 d_Mo_needs_20 (by decide) (fun h4 => ?_) (fun h4 => ?_)
      · refine g_iconst (v := nI 1) E d_Mo_needs_27 (by decide) ?_
        refine gwVi (As := [.int (nI 1)]) (rest := []) (w' := wM V am 1 nY ix bu np st sr go ca nw yo ce wo po ne sv cl mk bg dp sh nx spn) (mc := 0) (ms := 0) E hA0 0 rfl rfl (C_Mo_refuses_1 l) (cs_Mo_85 E rfl rfl ⟨Nat.le_of_ble_eq_true rfl, Nat.le_of_ble_eq_true rfl⟩) rfl rfl (Nat.le_of_ble_eq_true rfl) ⟨Nat.zero_le _, Nat.zero_le _⟩ d_Mo_needs_28 ?_
        refine g_nif_eq E 36 d_Mo_needs_31 (by decide) (by decide) (fun h5 => absurd h5 (by decide)) (fun _ => ?_)
        refine g_iconst (v := nI 0) E d_Mo_needs_34 (by decide) ?_
        exact g_iret E hr hlk d_Mo_needs_35 (gq_wi (w1 := fun _ => wM V am 1 nY ix bu np st sr go ca nw yo ce wo po ne sv cl mk bg dp sh nx spn) () (rfl))
      · refine g_iconst (v := nI 0) E d_Mo_needs_23 (by decide) ?_
        refine g_goto E 28 d_Mo_needs_24 (by decide) ?_
        exact absurd hb (nd2 h4)

set_option maxHeartbeats 4000000 in
set_option maxRecDepth 100000 in
theorem Y_Mo_chosen (l : Launch) {V : gV} {am : Nat → Nat} {th nY : Nat} {ix bu : Nat → Nat} {np : Nat} {st sr go ca : Nat → Nat} {nw : Nat} {yo ce wo : Nat → Nat} {po ne : Nat → Option Nat} {sv : Nat → Nat} {cl : Nat → Bool} {mk bg dp : Nat} {sh nx : Nat → Nat} {spn : Int} (a : Int32) (hnw : nw ≤ 10) (hb : inR a (nI nw) = false) : mWi l y_Mo_chosen (w_Mo_chosen :: gt) rm_Mo_chosen V (wM V am th nY ix bu np st sr go ca nw yo ce wo po ne sv cl mk bg dp sh nx spn) [.ref (am 0), .int a] (nI 0) (wM V am 1 nY ix bu np st sr go ca nw yo ce wo po ne sv cl mk bg dp sh nx spn) 0 0 := by
  intro sz
  refine gMet (V := V) (As := [.ref (am 0), .int a]) (cc := c_Mo_chosen) (maxL := 2) (ret := (some .boolean)) (by decide) rfl (Nat.le_of_ble_eq_true rfl) (fun a U h => ⟨h.1, h.2.2.2.1⟩) ?_
  intro p e s m below meth c E hr hlk hnm hv
  refine g_toW (sz := sz) (w := wM V am th nY ix bu np st sr go ca nw yo ce wo po ne sv cl mk bg dp sh nx spn) hv.2.2.1 hv.2.2.2.2 ?_
  have hA0 : ∀ q : Nat, s.heap.size ≤ q → va_A (wM V am th nY ix bu np st sr go ca nw yo ce wo po ne sv cl mk bg dp sh nx spn) sz q := fun q h => Or.inr (by rw [← hv.2.1]; exact h)
  refine g_aload_n E d_Mo_chosen_0 rfl 0 rfl ?_
  refine g_aload_n E d_Mo_chosen_1 rfl 0 rfl ?_
  refine g_iload_n E d_Mo_chosen_2 rfl 1 rfl ?_
  refine gpVi (As := [.int a]) (rest := [.ref (am 0)]) E gO_w 0 rfl rfl (C_Mo_isWork l a (by omega)) (cs_Mo_121 E rfl rfl ⟨Nat.le_of_ble_eq_true rfl, Nat.le_of_ble_eq_true rfl⟩) rfl rfl (Nat.le_of_ble_eq_true rfl) ⟨Nat.zero_le _, Nat.zero_le _⟩ d_Mo_chosen_3 ?_
  refine g_topi (show bI _ = nI 0 from by rw [hb]; rfl) ?_
  refine g_nif_eq E 13 d_Mo_chosen_6 (by decide) (by decide) (fun _ => ?_) (fun h1 => absurd h1 (by decide))
  refine g_iconst (v := nI 1) E d_Mo_chosen_13 (by decide) ?_
  refine gwVi (As := [.int (nI 1)]) (rest := []) (w' := wM V am 1 nY ix bu np st sr go ca nw yo ce wo po ne sv cl mk bg dp sh nx spn) (mc := 0) (ms := 0) E hA0 0 rfl rfl (C_Mo_refuses_1 l) (cs_Mo_85 E rfl rfl ⟨Nat.le_of_ble_eq_true rfl, Nat.le_of_ble_eq_true rfl⟩) rfl rfl (Nat.le_of_ble_eq_true rfl) ⟨Nat.zero_le _, Nat.zero_le _⟩ d_Mo_chosen_14 ?_
  refine g_nif_ne E 35 d_Mo_chosen_17 (by decide) (by decide) (fun _ => ?_) (fun h2 => absurd h2 (by decide))
  refine g_iconst (v := nI 0) E d_Mo_chosen_35 (by decide) ?_
  exact g_zret E hr hlk d_Mo_chosen_36 (Or.inl rfl) (gq_wi (w1 := fun _ => wM V am 1 nY ix bu np st sr go ca nw yo ce wo po ne sv cl mk bg dp sh nx spn) () (rfl))

set_option maxHeartbeats 4000000 in
set_option maxRecDepth 100000 in
theorem Y_Mo_costs (l : Launch) {V : gV} {am : Nat → Nat} {th nY : Nat} {ix bu : Nat → Nat} {np : Nat} {st sr go ca : Nat → Nat} {nw : Nat} {yo ce wo : Nat → Nat} {po ne : Nat → Option Nat} {sv : Nat → Nat} {cl : Nat → Bool} {mk bg dp : Nat} {sh nx : Nat → Nat} {spn : Int} (y : Int32) (hY : nY ≤ 12) (hb : inR y (nI nY) = false) : mWi l y_Mo_costs (w_Mo_costs :: gt) rm_Mo_costs V (wM V am th nY ix bu np st sr go ca nw yo ce wo po ne sv cl mk bg dp sh nx spn) [.ref (am 0), .int y] (nI 0) (wM V am 1 nY ix bu np st sr go ca nw yo ce wo po ne sv cl mk bg dp sh nx spn) 0 0 := by
  intro sz
  refine gMet (V := V) (As := [.ref (am 0), .int y]) (cc := c_Mo_costs) (maxL := 2) (ret := (some .int)) (by decide) rfl (Nat.le_of_ble_eq_true rfl) (fun a U h => ⟨h.1, h.2.2.2.1⟩) ?_
  intro p e s m below meth c E hr hlk hnm hv
  refine g_toW (sz := sz) (w := wM V am th nY ix bu np st sr go ca nw yo ce wo po ne sv cl mk bg dp sh nx spn) hv.2.2.1 hv.2.2.2.2 ?_
  have hA0 : ∀ q : Nat, s.heap.size ≤ q → va_A (wM V am th nY ix bu np st sr go ca nw yo ce wo po ne sv cl mk bg dp sh nx spn) sz q := fun q h => Or.inr (by rw [← hv.2.1]; exact h)
  refine g_aload_n E d_Mo_costs_0 rfl 0 rfl ?_
  refine g_aload_n E d_Mo_costs_1 rfl 0 rfl ?_
  refine g_iload_n E d_Mo_costs_2 rfl 1 rfl ?_
  refine gpVi (As := [.int y]) (rest := [.ref (am 0)]) E gO_w 0 rfl rfl (C_Mo_isYear l y (by omega)) (cs_Mo_78 E rfl rfl ⟨Nat.le_of_ble_eq_true rfl, Nat.le_of_ble_eq_true rfl⟩) rfl rfl (Nat.le_of_ble_eq_true rfl) ⟨Nat.zero_le _, Nat.zero_le _⟩ d_Mo_costs_3 ?_
  refine g_topi (show bI _ = nI 0 from by rw [hb]; rfl) ?_
  refine g_nif_eq E 13 d_Mo_costs_6 (by decide) (by decide) (fun _ => ?_) (fun h1 => absurd h1 (by decide))
  refine g_iconst (v := nI 1) E d_Mo_costs_13 (by decide) ?_
  refine gwVi (As := [.int (nI 1)]) (rest := []) (w' := wM V am 1 nY ix bu np st sr go ca nw yo ce wo po ne sv cl mk bg dp sh nx spn) (mc := 0) (ms := 0) E hA0 0 rfl rfl (C_Mo_refuses_1 l) (cs_Mo_85 E rfl rfl ⟨Nat.le_of_ble_eq_true rfl, Nat.le_of_ble_eq_true rfl⟩) rfl rfl (Nat.le_of_ble_eq_true rfl) ⟨Nat.zero_le _, Nat.zero_le _⟩ d_Mo_costs_14 ?_
  refine g_nif_eq E 24 d_Mo_costs_17 (by decide) (by decide) (fun h2 => absurd h2 (by decide)) (fun _ => ?_)
  refine g_iconst (v := nI 0) E d_Mo_costs_20 (by decide) ?_
  refine g_goto E 34 d_Mo_costs_21 (by decide) ?_
  exact g_iret E hr hlk d_Mo_costs_34 (gq_wi (w1 := fun _ => wM V am 1 nY ix bu np st sr go ca nw yo ce wo po ne sv cl mk bg dp sh nx spn) () (rfl))

set_option maxHeartbeats 4000000 in
set_option maxRecDepth 100000 in
theorem Y_Mo_money (l : Launch) {V : gV} {am : Nat → Nat} {th nY : Nat} {ix bu : Nat → Nat} {np : Nat} {st sr go ca : Nat → Nat} {nw : Nat} {yo ce wo : Nat → Nat} {po ne : Nat → Option Nat} {sv : Nat → Nat} {cl : Nat → Bool} {mk bg dp : Nat} {sh nx : Nat → Nat} {spn : Int} (k v : Int32) (hb : (inB k (nI 0) (nI 1000000000) && inB v (nI 0) (nI 1000000000)) = false) : mWv l y_Mo_money (w_Mo_money :: gt) rm_Mo_money V (wM V am th nY ix bu np st sr go ca nw yo ce wo po ne sv cl mk bg dp sh nx spn) [.ref (am 0), .int k, .int v] (wM V am 1 nY ix bu np st sr go ca nw yo ce wo po ne sv cl mk bg dp sh nx spn) 0 0 := by
  intro sz
  refine gMet (V := V) (As := [.ref (am 0), .int k, .int v]) (cc := c_Mo_money) (maxL := 3) (ret := none) (by decide) rfl (Nat.le_of_ble_eq_true rfl) (fun a U h => ⟨h.1, h.2.2.2.1⟩) ?_
  intro p e s m below meth c E hr hlk hnm hv
  refine g_toW (sz := sz) (w := wM V am th nY ix bu np st sr go ca nw yo ce wo po ne sv cl mk bg dp sh nx spn) hv.2.2.1 hv.2.2.2.2 ?_
  have hA0 : ∀ q : Nat, s.heap.size ≤ q → va_A (wM V am th nY ix bu np st sr go ca nw yo ce wo po ne sv cl mk bg dp sh nx spn) sz q := fun q h => Or.inr (by rw [← hv.2.1]; exact h)
  refine g_aload_n E d_Mo_money_0 rfl 0 rfl ?_
  refine g_iload_n E d_Mo_money_1 rfl 1 rfl ?_
  refine g_i2l E d_Mo_money_2 ?_
  refine g_lconst (v := lN 0) E d_Mo_money_3 (by decide) ?_
  refine g_ldc2 E kk_Mo_88 d_Mo_money_4 ?_
  refine g_topl (show ((1000000000) : Int64) = lN 1000000000 from by decide) ?_
  refine gpSi (As := [.long k.toInt64, .long (lN 0), .long (lN 1000000000)]) (rest := [.ref (am 0)]) E gO_w (C_Mo_within l k.toInt64 (lN 0) (lN 1000000000)) (cs_Mo_64 E rfl rfl ⟨Nat.le_of_ble_eq_true rfl, Nat.le_of_ble_eq_true rfl⟩) rfl rfl (Nat.le_of_ble_eq_true rfl) ⟨Nat.zero_le _, Nat.zero_le _⟩ d_Mo_money_7 ?_
  refine g_topi (congrArg bI (inBL_B k (by omega) (by omega))) ?_
  refine g_bif_eq E 29 d_Mo_money_10 (by decide) (fun h1 => ?_) (fun h1 => ?_)
  · refine g_iconst (v := nI 1) E d_Mo_money_29 (by decide) ?_
    refine gwVi (As := [.int (nI 1)]) (rest := []) (w' := wM V am 1 nY ix bu np st sr go ca nw yo ce wo po ne sv cl mk bg dp sh nx spn) (mc := 0) (ms := 0) E hA0 0 rfl rfl (C_Mo_refuses_1 l) (cs_Mo_85 E rfl rfl ⟨Nat.le_of_ble_eq_true rfl, Nat.le_of_ble_eq_true rfl⟩) rfl rfl (Nat.le_of_ble_eq_true rfl) ⟨Nat.zero_le _, Nat.zero_le _⟩ d_Mo_money_30 ?_
    refine g_nif_ne E 48 d_Mo_money_33 (by decide) (by decide) (fun _ => ?_) (fun h2 => absurd h2 (by decide))
    exact g_vret E hr hlk d_Mo_money_48 (gq_wv (w1 := fun _ => wM V am 1 nY ix bu np st sr go ca nw yo ce wo po ne sv cl mk bg dp sh nx spn) () trivial)
  · refine g_iload_n E d_Mo_money_13 rfl 2 rfl ?_
    refine g_i2l E d_Mo_money_14 ?_
    refine g_lconst (v := lN 0) E d_Mo_money_15 (by decide) ?_
    refine g_ldc2 E kk_Mo_88 d_Mo_money_16 ?_
    refine g_topl (show ((1000000000) : Int64) = lN 1000000000 from by decide) ?_
    refine gpSi (As := [.long v.toInt64, .long (lN 0), .long (lN 1000000000)]) (rest := [.ref (am 0)]) E gO_w (C_Mo_within l v.toInt64 (lN 0) (lN 1000000000)) (cs_Mo_64 E rfl rfl ⟨Nat.le_of_ble_eq_true rfl, Nat.le_of_ble_eq_true rfl⟩) rfl rfl (Nat.le_of_ble_eq_true rfl) ⟨Nat.zero_le _, Nat.zero_le _⟩ d_Mo_money_19 ?_
    refine g_topi (congrArg bI (inBL_B v (by omega) (by omega))) ?_
    refine g_bif_eq E 29 d_Mo_money_22 (by decide) (fun h3 => ?_) (fun h3 => ?_)
    · refine g_iconst (v := nI 1) E d_Mo_money_29 (by decide) ?_
      refine gwVi (As := [.int (nI 1)]) (rest := []) (w' := wM V am 1 nY ix bu np st sr go ca nw yo ce wo po ne sv cl mk bg dp sh nx spn) (mc := 0) (ms := 0) E hA0 0 rfl rfl (C_Mo_refuses_1 l) (cs_Mo_85 E rfl rfl ⟨Nat.le_of_ble_eq_true rfl, Nat.le_of_ble_eq_true rfl⟩) rfl rfl (Nat.le_of_ble_eq_true rfl) ⟨Nat.zero_le _, Nat.zero_le _⟩ d_Mo_money_30 ?_
      refine g_nif_ne E 48 d_Mo_money_33 (by decide) (by decide) (fun _ => ?_) (fun h4 => absurd h4 (by decide))
      exact g_vret E hr hlk d_Mo_money_48 (gq_wv (w1 := fun _ => wM V am 1 nY ix bu np st sr go ca nw yo ce wo po ne sv cl mk bg dp sh nx spn) () trivial)
    · refine g_iconst (v := nI 0) E d_Mo_money_25 (by decide) ?_
      refine g_goto E 30 d_Mo_money_26 (by decide) ?_
      exact absurd hb (by first | (simp [h1, h3]; done) | simp_all)

set_option maxHeartbeats 4000000 in
set_option maxRecDepth 100000 in
theorem Y_Mo_reserve (l : Launch) {V : gV} {am : Nat → Nat} {th nY : Nat} {ix bu : Nat → Nat} {np : Nat} {st sr go ca : Nat → Nat} {nw : Nat} {yo ce wo : Nat → Nat} {po ne : Nat → Option Nat} {sv : Nat → Nat} {cl : Nat → Bool} {mk bg dp : Nat} {sh nx : Nat → Nat} {spn : Int} (y : Int32) (hY : nY ≤ 12) (hb : inR y (nI nY) = false) : mWl l y_Mo_reserve (w_Mo_reserve :: gt) rm_Mo_reserve V (wM V am th nY ix bu np st sr go ca nw yo ce wo po ne sv cl mk bg dp sh nx spn) [.ref (am 0), .int y] (lN 0) (wM V am 1 nY ix bu np st sr go ca nw yo ce wo po ne sv cl mk bg dp sh nx spn) 0 0 := by
  intro sz
  refine gMet (V := V) (As := [.ref (am 0), .int y]) (cc := c_Mo_reserve) (maxL := 2) (ret := (some .long)) (by decide) rfl (Nat.le_of_ble_eq_true rfl) (fun a U h => ⟨h.1, h.2.2.2.1⟩) ?_
  intro p e s m below meth c E hr hlk hnm hv
  refine g_toW (sz := sz) (w := wM V am th nY ix bu np st sr go ca nw yo ce wo po ne sv cl mk bg dp sh nx spn) hv.2.2.1 hv.2.2.2.2 ?_
  have hA0 : ∀ q : Nat, s.heap.size ≤ q → va_A (wM V am th nY ix bu np st sr go ca nw yo ce wo po ne sv cl mk bg dp sh nx spn) sz q := fun q h => Or.inr (by rw [← hv.2.1]; exact h)
  refine g_aload_n E d_Mo_reserve_0 rfl 0 rfl ?_
  refine g_aload_n E d_Mo_reserve_1 rfl 0 rfl ?_
  refine g_iload_n E d_Mo_reserve_2 rfl 1 rfl ?_
  refine gpVi (As := [.int y]) (rest := [.ref (am 0)]) E gO_w 0 rfl rfl (C_Mo_isYear l y (by omega)) (cs_Mo_78 E rfl rfl ⟨Nat.le_of_ble_eq_true rfl, Nat.le_of_ble_eq_true rfl⟩) rfl rfl (Nat.le_of_ble_eq_true rfl) ⟨Nat.zero_le _, Nat.zero_le _⟩ d_Mo_reserve_3 ?_
  refine g_topi (show bI _ = nI 0 from by rw [hb]; rfl) ?_
  refine g_nif_eq E 13 d_Mo_reserve_6 (by decide) (by decide) (fun _ => ?_) (fun h1 => absurd h1 (by decide))
  refine g_iconst (v := nI 1) E d_Mo_reserve_13 (by decide) ?_
  refine gwVi (As := [.int (nI 1)]) (rest := []) (w' := wM V am 1 nY ix bu np st sr go ca nw yo ce wo po ne sv cl mk bg dp sh nx spn) (mc := 0) (ms := 0) E hA0 0 rfl rfl (C_Mo_refuses_1 l) (cs_Mo_85 E rfl rfl ⟨Nat.le_of_ble_eq_true rfl, Nat.le_of_ble_eq_true rfl⟩) rfl rfl (Nat.le_of_ble_eq_true rfl) ⟨Nat.zero_le _, Nat.zero_le _⟩ d_Mo_reserve_14 ?_
  refine g_nif_eq E 24 d_Mo_reserve_17 (by decide) (by decide) (fun h2 => absurd h2 (by decide)) (fun _ => ?_)
  refine g_lconst (v := lN 0) E d_Mo_reserve_20 (by decide) ?_
  refine g_goto E 29 d_Mo_reserve_21 (by decide) ?_
  exact g_lret E hr hlk d_Mo_reserve_29 (gq_wl (w1 := fun _ => wM V am 1 nY ix bu np st sr go ca nw yo ce wo po ne sv cl mk bg dp sh nx spn) () (rfl))

set_option maxHeartbeats 4000000 in
set_option maxRecDepth 100000 in
theorem Y_Mo_payment (l : Launch) {V : gV} {am : Nat → Nat} {th nY : Nat} {ix bu : Nat → Nat} {np : Nat} {st sr go ca : Nat → Nat} {nw : Nat} {yo ce wo : Nat → Nat} {po ne : Nat → Option Nat} {sv : Nat → Nat} {cl : Nat → Bool} {mk bg dp : Nat} {sh nx : Nat → Nat} {spn : Int} (x y z : Int32) (hb : isL x y z = false) : mWi l y_Mo_payment (w_Mo_payment :: gt) rm_Mo_payment V (wM V am th nY ix bu np st sr go ca nw yo ce wo po ne sv cl mk bg dp sh nx spn) [.ref (am 0), .int x, .int y, .int z] (nI 0) (wM V am 1 nY ix bu np st sr go ca nw yo ce wo po ne sv cl mk bg dp sh nx spn) 0 0 := by
  intro sz
  refine gMet (V := V) (As := [.ref (am 0), .int x, .int y, .int z]) (cc := c_Mo_payment) (maxL := 4) (ret := (some .int)) (by decide) rfl (Nat.le_of_ble_eq_true rfl) (fun a U h => ⟨h.1, h.2.2.2.1⟩) ?_
  intro p e s m below meth c E hr hlk hnm hv
  refine g_toW (sz := sz) (w := wM V am th nY ix bu np st sr go ca nw yo ce wo po ne sv cl mk bg dp sh nx spn) hv.2.2.1 hv.2.2.2.2 ?_
  have hA0 : ∀ q : Nat, s.heap.size ≤ q → va_A (wM V am th nY ix bu np st sr go ca nw yo ce wo po ne sv cl mk bg dp sh nx spn) sz q := fun q h => Or.inr (by rw [← hv.2.1]; exact h)
  refine g_aload_n E d_Mo_payment_0 rfl 0 rfl ?_
  refine g_iload_n E d_Mo_payment_1 rfl 1 rfl ?_
  refine g_iload_n E d_Mo_payment_2 rfl 2 rfl ?_
  refine g_iload_n E d_Mo_payment_3 rfl 3 rfl ?_
  refine gpSi (As := [.int x, .int y, .int z]) (rest := [.ref (am 0)]) E gO_w (C_Mo_isLoan l x y z) (cs_Mo_165 E rfl rfl ⟨Nat.le_of_ble_eq_true rfl, Nat.le_of_ble_eq_true rfl⟩) rfl rfl (Nat.le_of_ble_eq_true rfl) ⟨Nat.zero_le _, Nat.zero_le _⟩ d_Mo_payment_4 ?_
  refine g_topi (show bI _ = nI 0 from by rw [hb]; rfl) ?_
  refine g_nif_eq E 14 d_Mo_payment_7 (by decide) (by decide) (fun _ => ?_) (fun h1 => absurd h1 (by decide))
  refine g_iconst (v := nI 1) E d_Mo_payment_14 (by decide) ?_
  refine gwVi (As := [.int (nI 1)]) (rest := []) (w' := wM V am 1 nY ix bu np st sr go ca nw yo ce wo po ne sv cl mk bg dp sh nx spn) (mc := 0) (ms := 0) E hA0 0 rfl rfl (C_Mo_refuses_1 l) (cs_Mo_85 E rfl rfl ⟨Nat.le_of_ble_eq_true rfl, Nat.le_of_ble_eq_true rfl⟩) rfl rfl (Nat.le_of_ble_eq_true rfl) ⟨Nat.zero_le _, Nat.zero_le _⟩ d_Mo_payment_15 ?_
  refine g_nif_eq E 25 d_Mo_payment_18 (by decide) (by decide) (fun h2 => absurd h2 (by decide)) (fun _ => ?_)
  refine g_iconst (v := nI 0) E d_Mo_payment_21 (by decide) ?_
  refine g_goto E 32 d_Mo_payment_22 (by decide) ?_
  exact g_iret E hr hlk d_Mo_payment_32 (gq_wi (w1 := fun _ => wM V am 1 nY ix bu np st sr go ca nw yo ce wo po ne sv cl mk bg dp sh nx spn) () (rfl))

set_option maxHeartbeats 4000000 in
set_option maxRecDepth 100000 in
theorem Y_Mo_rest (l : Launch) {V : gV} {am : Nat → Nat} {th nY : Nat} {ix bu : Nat → Nat} {np : Nat} {st sr go ca : Nat → Nat} {nw : Nat} {yo ce wo : Nat → Nat} {po ne : Nat → Option Nat} {sv : Nat → Nat} {cl : Nat → Bool} {mk bg dp : Nat} {sh nx : Nat → Nat} {spn : Int} (x y z t : Int32) (hb : (isL x y z && inB t (nI 0) z) = false) : mWi l y_Mo_rest (w_Mo_rest :: gt) rm_Mo_rest V (wM V am th nY ix bu np st sr go ca nw yo ce wo po ne sv cl mk bg dp sh nx spn) [.ref (am 0), .int x, .int y, .int z, .int t] (nI 0) (wM V am 1 nY ix bu np st sr go ca nw yo ce wo po ne sv cl mk bg dp sh nx spn) 0 0 := by
  intro sz
  refine gMet (V := V) (As := [.ref (am 0), .int x, .int y, .int z, .int t]) (cc := c_Mo_rest) (maxL := 5) (ret := (some .int)) (by decide) rfl (Nat.le_of_ble_eq_true rfl) (fun a U h => ⟨h.1, h.2.2.2.1⟩) ?_
  intro p e s m below meth c E hr hlk hnm hv
  refine g_toW (sz := sz) (w := wM V am th nY ix bu np st sr go ca nw yo ce wo po ne sv cl mk bg dp sh nx spn) hv.2.2.1 hv.2.2.2.2 ?_
  have hA0 : ∀ q : Nat, s.heap.size ≤ q → va_A (wM V am th nY ix bu np st sr go ca nw yo ce wo po ne sv cl mk bg dp sh nx spn) sz q := fun q h => Or.inr (by rw [← hv.2.1]; exact h)
  refine g_aload_n E d_Mo_rest_0 rfl 0 rfl ?_
  refine g_iload_n E d_Mo_rest_1 rfl 1 rfl ?_
  refine g_iload_n E d_Mo_rest_2 rfl 2 rfl ?_
  refine g_iload_n E d_Mo_rest_3 rfl 3 rfl ?_
  refine gpSi (As := [.int x, .int y, .int z]) (rest := [.ref (am 0)]) E gO_w (C_Mo_isLoan l x y z) (cs_Mo_165 E rfl rfl ⟨Nat.le_of_ble_eq_true rfl, Nat.le_of_ble_eq_true rfl⟩) rfl rfl (Nat.le_of_ble_eq_true rfl) ⟨Nat.zero_le _, Nat.zero_le _⟩ d_Mo_rest_4 ?_
  refine g_bif_eq E 26 d_Mo_rest_7 (by decide) (fun h1 => ?_) (fun h1 => ?_)
  · refine g_iconst (v := nI 1) E d_Mo_rest_26 (by decide) ?_
    refine gwVi (As := [.int (nI 1)]) (rest := []) (w' := wM V am 1 nY ix bu np st sr go ca nw yo ce wo po ne sv cl mk bg dp sh nx spn) (mc := 0) (ms := 0) E hA0 0 rfl rfl (C_Mo_refuses_1 l) (cs_Mo_85 E rfl rfl ⟨Nat.le_of_ble_eq_true rfl, Nat.le_of_ble_eq_true rfl⟩) rfl rfl (Nat.le_of_ble_eq_true rfl) ⟨Nat.zero_le _, Nat.zero_le _⟩ d_Mo_rest_27 ?_
    refine g_nif_eq E 35 d_Mo_rest_30 (by decide) (by decide) (fun h2 => absurd h2 (by decide)) (fun _ => ?_)
    refine g_iconst (v := nI 0) E d_Mo_rest_33 (by decide) ?_
    exact g_iret E hr hlk d_Mo_rest_34 (gq_wi (w1 := fun _ => wM V am 1 nY ix bu np st sr go ca nw yo ce wo po ne sv cl mk bg dp sh nx spn) () (rfl))
  · refine g_iload E d_Mo_rest_10 4 rfl ?_
    refine g_i2l E d_Mo_rest_12 ?_
    refine g_lconst (v := lN 0) E d_Mo_rest_13 (by decide) ?_
    refine g_iload_n E d_Mo_rest_14 rfl 3 rfl ?_
    refine g_i2l E d_Mo_rest_15 ?_
    refine gpSi (As := [.long t.toInt64, .long (lN 0), .long z.toInt64]) (rest := [.ref (am 0)]) E gO_w (C_Mo_within l t.toInt64 (lN 0) z.toInt64) (cs_Mo_64 E rfl rfl ⟨Nat.le_of_ble_eq_true rfl, Nat.le_of_ble_eq_true rfl⟩) rfl rfl (Nat.le_of_ble_eq_true rfl) ⟨Nat.zero_le _, Nat.zero_le _⟩ d_Mo_rest_16 ?_
    refine g_topi (congrArg bI (inBL_Z t z (by omega))) ?_
    refine g_bif_eq E 26 d_Mo_rest_19 (by decide) (fun h3 => ?_) (fun h3 => ?_)
    · refine g_iconst (v := nI 1) E d_Mo_rest_26 (by decide) ?_
      refine gwVi (As := [.int (nI 1)]) (rest := []) (w' := wM V am 1 nY ix bu np st sr go ca nw yo ce wo po ne sv cl mk bg dp sh nx spn) (mc := 0) (ms := 0) E hA0 0 rfl rfl (C_Mo_refuses_1 l) (cs_Mo_85 E rfl rfl ⟨Nat.le_of_ble_eq_true rfl, Nat.le_of_ble_eq_true rfl⟩) rfl rfl (Nat.le_of_ble_eq_true rfl) ⟨Nat.zero_le _, Nat.zero_le _⟩ d_Mo_rest_27 ?_
      refine g_nif_eq E 35 d_Mo_rest_30 (by decide) (by decide) (fun h4 => absurd h4 (by decide)) (fun _ => ?_)
      refine g_iconst (v := nI 0) E d_Mo_rest_33 (by decide) ?_
      exact g_iret E hr hlk d_Mo_rest_34 (gq_wi (w1 := fun _ => wM V am 1 nY ix bu np st sr go ca nw yo ce wo po ne sv cl mk bg dp sh nx spn) () (rfl))
    · refine g_iconst (v := nI 0) E d_Mo_rest_22 (by decide) ?_
      refine g_goto E 27 d_Mo_rest_23 (by decide) ?_
      exact absurd hb (by first | (simp [h1, h3]; done) | simp_all)
