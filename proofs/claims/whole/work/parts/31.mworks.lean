/-! The model's works, reserve and loan. -/
/-- work a of the set S goes together with those of lower numbers, and has what it needs -/
def agM (cl : Nat → Bool) (ne : Nat → Option Nat) (yo : Nat → Nat) (S a : Nat) : Bool := !S.testBit a || (!nB ne yo S a && allN (fun b => !(S.testBit b && cl (10 * a + b))) a)
theorem oN_neg : oN none < 0 := by decide

set_option maxHeartbeats 4000000 in
set_option maxRecDepth 100000 in
theorem C_Mo_goesTogether (l : Launch) {V : gV} {am : Nat → Nat} {th nY : Nat} {ix bu : Nat → Nat} {np : Nat} {st sr go ca : Nat → Nat} {nw : Nat} {yo ce wo : Nat → Nat} {po ne : Nat → Option Nat} {sv : Nat → Nat} {cl : Nat → Bool} {mk bg dp : Nat} {sh nx : Nat → Nat} {spn : Int} (S : Nat) (hS : S < 1024) (hnw : nw ≤ 10) (hne : ∀ w q, ne w = some q → q < 10) (hyo : ∀ w, yo w < 12) : mPi l y_Mo_goesTogether (w_Mo_goesTogether :: gt) rm_Mo_goesTogether V (wM V am th nY ix bu np st sr go ca nw yo ce wo po ne sv cl mk bg dp sh nx spn) [.ref (am 0), .int (nI S)] (bI (allN (agM cl ne yo S) nw)) := by
  refine gMet (V := V) (As := [.ref (am 0), .int (nI S)]) (cc := c_Mo_goesTogether) (maxL := 5) (ret := (some .boolean)) (by decide) rfl (Nat.le_of_ble_eq_true rfl) (fun a U h => ⟨h.1, h.2.2⟩) ?_
  intro p e s m below meth c E hr hlk hnm hv
  have hO := gO_r (locs1 := []) (ws := wM V am th nY ix bu np st sr go ca nw yo ce wo po ne sv cl mk bg dp sh nx spn) hv.2.1
  refine g_iconst (v := nI 0) E d_Mo_goesTogether_0 (by decide) ?_
  refine g_istore_n (lv' := [(2, .int (nI 0)), (0, .ref (am 0)), (1, .int (nI S))]) E d_Mo_goesTogether_1 rfl (by decide) rfl ?_
  refine g_lv [0, 1, 2] rfl ?_
  refine gloop (α := Nat) (fun a_ => gR s.heap []) (fun a_ => [(2, .int (nI a_)), (0, .ref (am 0)), (1, .int (nI S))]) (fun a_ => a_ ≤ nw ∧ ∀ j, j < a_ → agM cl ne yo S j = true) (fun a_ => nw - a_) (0) (⟨Nat.zero_le _, fun j hj => absurd hj (Nat.not_lt_zero _)⟩) ?_
  rintro t hI_2 ih_2
  try dsimp only at hI_2 ih_2 ⊢
  refine g_iload_n E d_Mo_goesTogether_2 rfl 0 rfl ?_
  refine g_aload_n E d_Mo_goesTogether_3 rfl 1 rfl ?_
  refine gf_Mo_75 E hO 0 rfl rfl d_Mo_goesTogether_4 ?_
  refine g_ncmp_ge E 104 d_Mo_goesTogether_7 (by decide) (by omega) (by omega) (fun h1 => ?_) (fun h1 => ?_)
  · refine g_iconst (v := nI 1) E d_Mo_goesTogether_104 (by decide) ?_
    exact g_zret E hr hlk d_Mo_goesTogether_105 (Or.inr rfl) (gq_i (by rw [allN_iff.mpr (fun j hj => hI_2.2 j (by omega))]; rfl))
  · have y1 := hyo t
    refine g_iload_n E d_Mo_goesTogether_10 rfl 2 rfl ?_
    refine g_iload_n E d_Mo_goesTogether_11 rfl 0 rfl ?_
    refine gpSi (As := [.int (nI S), .int (nI t)]) (rest := []) E hO (C_Mo_has l S t (by omega) (by omega)) (cs_Mo_127 E rfl rfl ⟨Nat.le_of_ble_eq_true rfl, Nat.le_of_ble_eq_true rfl⟩) rfl rfl (Nat.le_of_ble_eq_true rfl) ⟨Nat.zero_le _, Nat.zero_le _⟩ d_Mo_goesTogether_12 ?_
    refine g_bif_ne E 21 d_Mo_goesTogether_15 (by decide) (fun h2 => ?_) (fun h2 => ?_)
    · refine g_aload_n E d_Mo_goesTogether_21 rfl 1 rfl ?_
      refine gf_Mo_40 E hO 0 rfl rfl d_Mo_goesTogether_22 ?_
      refine g_iload_n E d_Mo_goesTogether_25 rfl 0 rfl ?_
      refine g_ldO E hO 11 rfl (by omega) (by decide) d_Mo_goesTogether_26 ?_
      rcases hz : ne t with _ | q
      · have _ := hz
        refine g_istore_n (lv' := [(3, .int (oN none)), (2, .int (nI t)), (0, .ref (am 0)), (1, .int (nI S))]) E d_Mo_goesTogether_27 rfl (by decide) rfl ?_
        refine g_iload_n E d_Mo_goesTogether_28 rfl 0 rfl ?_
        refine g_if_lt E 57 d_Mo_goesTogether_29 (by decide) (fun h3 => ?_) (fun h3 => ?_)
        · refine g_iconst (v := nI 0) E d_Mo_goesTogether_57 (by decide) ?_
          refine g_istore (lv' := [(4, .int (nI 0)), (3, .int (oN none)), (2, .int (nI t)), (0, .ref (am 0)), (1, .int (nI S))]) E d_Mo_goesTogether_58 (by decide) rfl ?_
          refine g_lv [0, 2, 3, 4] rfl ?_
          refine gloop (α := Nat) (fun a_ => gR s.heap []) (fun a_ => [(4, .int (nI a_)), (2, .int (nI t)), (0, .ref (am 0)), (1, .int (nI S))]) (fun a_ => a_ ≤ t ∧ ∀ j, j < a_ → (!(S.testBit j && cl (10 * t + j))) = true) (fun a_ => t - a_) (0) (⟨Nat.zero_le _, fun j hj => absurd hj (Nat.not_lt_zero _)⟩) ?_
          rintro q_ hI_60 ih_60
          try dsimp only at hI_60 ih_60 ⊢
          refine g_iload E d_Mo_goesTogether_60 0 rfl ?_
          refine g_iload_n E d_Mo_goesTogether_62 rfl 1 rfl ?_
          refine g_ncmp_ge E 98 d_Mo_goesTogether_63 (by decide) (by omega) (by omega) (fun h4 => ?_) (fun h4 => ?_)
          · refine g_iinc (lv' := [(2, .int (nI (t + 1))), (4, .int (nI q_)), (0, .ref (am 0)), (1, .int (nI S))]) E d_Mo_goesTogether_98 1 rfl (nI_inc _) (by decide) rfl ?_
            refine g_goto E 2 d_Mo_goesTogether_101 (by decide) ?_
            refine g_lv [0, 2, 3] rfl ?_
            exact ih_2 (t + 1) (⟨by (try dsimp only); omega, lt_s hI_2.2 (by have e : allN (fun b => !(S.testBit b && cl (10 * t + b))) t = true := allN_iff.mpr (fun j hj => hI_60.2 j (by omega)); rw [agM, e]; simp [nB, h2, hz, h3, h4]; try omega)⟩) (by (try dsimp only); omega)
          · refine g_iload_n E d_Mo_goesTogether_66 rfl 3 rfl ?_
            refine g_iload E d_Mo_goesTogether_67 0 rfl ?_
            refine gpSi (As := [.int (nI S), .int (nI q_)]) (rest := []) E hO (C_Mo_has l S q_ (by omega) (by omega)) (cs_Mo_127 E rfl rfl ⟨Nat.le_of_ble_eq_true rfl, Nat.le_of_ble_eq_true rfl⟩) rfl rfl (Nat.le_of_ble_eq_true rfl) ⟨Nat.zero_le _, Nat.zero_le _⟩ d_Mo_goesTogether_69 ?_
            refine g_bif_eq E 92 d_Mo_goesTogether_72 (by decide) (fun h5 => ?_) (fun h5 => ?_)
            · refine g_iinc (lv' := [(4, .int (nI (q_ + 1))), (2, .int (nI t)), (0, .ref (am 0)), (1, .int (nI S))]) E d_Mo_goesTogether_92 0 rfl (nI_inc _) (by decide) rfl ?_
              refine g_goto E 60 d_Mo_goesTogether_95 (by decide) ?_
              refine g_lv [0, 1, 2, 3] rfl ?_
              exact ih_60 (q_ + 1) (⟨by (try dsimp only); omega, lt_s hI_60.2 (by simp [h5])⟩) (by (try dsimp only); omega)
            · refine g_aload_n E d_Mo_goesTogether_75 rfl 2 rfl ?_
              refine gf_Mo_46 E hO 0 rfl rfl d_Mo_goesTogether_76 ?_
              refine g_bipush (v := nI 10) E d_Mo_goesTogether_79 (by decide) ?_
              refine g_iload_n E d_Mo_goesTogether_81 rfl 1 rfl ?_
              refine g_imul E d_Mo_goesTogether_82 ?_
              refine g_topi (pk_mul _ _) ?_
              refine g_iload E d_Mo_goesTogether_83 0 rfl ?_
              refine g_iadd E d_Mo_goesTogether_85 ?_
              refine g_topi (nI_add _ _) ?_
              refine g_ldB E hO 13 rfl (by omega) (by decide) d_Mo_goesTogether_86 ?_
              refine g_bif_eq E 92 d_Mo_goesTogether_87 (by decide) (fun h6 => ?_) (fun h6 => ?_)
              · refine g_iinc (lv' := [(4, .int (nI (q_ + 1))), (2, .int (nI t)), (0, .ref (am 0)), (1, .int (nI S))]) E d_Mo_goesTogether_92 0 rfl (nI_inc _) (by decide) rfl ?_
                refine g_goto E 60 d_Mo_goesTogether_95 (by decide) ?_
                refine g_lv [0, 1, 2, 3] rfl ?_
                exact ih_60 (q_ + 1) (⟨by (try dsimp only); omega, lt_s hI_60.2 (by simp [h6])⟩) (by (try dsimp only); omega)
              · refine g_iconst (v := nI 0) E d_Mo_goesTogether_90 (by decide) ?_
                exact g_zret E hr hlk d_Mo_goesTogether_91 (Or.inl rfl) (gq_i (by rw [allN_false (i := t) (by omega) (by rw [agM, allN_false (i := q_) (by omega) (by simp [h2, hz, h3, h4, h5, h6])]; simp [h2, hz, h3, h4, h5, h6])]; rfl))
        · exact absurd oN_neg h3
      · have hq := hne t q hz
        refine g_topi (show oN (some q) = nI q from rfl) ?_
        have y2 := hyo q
        refine g_istore_n (lv' := [(3, .int (nI q)), (2, .int (nI t)), (0, .ref (am 0)), (1, .int (nI S))]) E d_Mo_goesTogether_27 rfl (by decide) rfl ?_
        refine g_iload_n E d_Mo_goesTogether_28 rfl 0 rfl ?_
        refine g_nif_lt E 57 d_Mo_goesTogether_29 (by decide) (by omega) ?_
        refine g_iload_n E d_Mo_goesTogether_32 rfl 3 rfl ?_
        refine g_iload_n E d_Mo_goesTogether_33 rfl 0 rfl ?_
        refine gpSi (As := [.int (nI S), .int (nI q)]) (rest := []) E hO (C_Mo_has l S q (by omega) (by omega)) (cs_Mo_127 E rfl rfl ⟨Nat.le_of_ble_eq_true rfl, Nat.le_of_ble_eq_true rfl⟩) rfl rfl (Nat.le_of_ble_eq_true rfl) ⟨Nat.zero_le _, Nat.zero_le _⟩ d_Mo_goesTogether_34 ?_
        refine g_bif_eq E 55 d_Mo_goesTogether_37 (by decide) (fun h8 => ?_) (fun h8 => ?_)
        · refine g_iconst (v := nI 0) E d_Mo_goesTogether_55 (by decide) ?_
          exact g_zret E hr hlk d_Mo_goesTogether_56 (Or.inl rfl) (gq_i (by rw [allN_false (i := t) (by omega) (by simp [agM, nB, h2, hz, h8])]; rfl))
        · refine g_aload_n E d_Mo_goesTogether_40 rfl 2 rfl ?_
          refine gf_Mo_28 E hO 0 rfl rfl d_Mo_goesTogether_41 ?_
          refine g_iload_n E d_Mo_goesTogether_44 rfl 1 rfl ?_
          refine g_ldN E hO 7 rfl (by omega) (by decide) d_Mo_goesTogether_45 ?_
          refine g_aload_n E d_Mo_goesTogether_46 rfl 2 rfl ?_
          refine gf_Mo_28 E hO 0 rfl rfl d_Mo_goesTogether_47 ?_
          refine g_iload_n E d_Mo_goesTogether_50 rfl 0 rfl ?_
          refine g_ldN E hO 7 rfl (by omega) (by decide) d_Mo_goesTogether_51 ?_
          refine g_ncmp_ge E 57 d_Mo_goesTogether_52 (by decide) (by omega) (by omega) (fun h9 => ?_) (fun h9 => ?_)
          · refine g_iconst (v := nI 0) E d_Mo_goesTogether_57 (by decide) ?_
            refine g_istore (lv' := [(4, .int (nI 0)), (3, .int (nI q)), (2, .int (nI t)), (0, .ref (am 0)), (1, .int (nI S))]) E d_Mo_goesTogether_58 (by decide) rfl ?_
            refine g_lv [0, 2, 3, 4] rfl ?_
            refine gloop (α := Nat) (fun a_ => gR s.heap []) (fun a_ => [(4, .int (nI a_)), (2, .int (nI t)), (0, .ref (am 0)), (1, .int (nI S))]) (fun a_ => a_ ≤ t ∧ ∀ j, j < a_ → (!(S.testBit j && cl (10 * t + j))) = true) (fun a_ => t - a_) (0) (⟨Nat.zero_le _, fun j hj => absurd hj (Nat.not_lt_zero _)⟩) ?_
            rintro q_ hI_60 ih_60
            try dsimp only at hI_60 ih_60 ⊢
            refine g_iload E d_Mo_goesTogether_60 0 rfl ?_
            refine g_iload_n E d_Mo_goesTogether_62 rfl 1 rfl ?_
            refine g_ncmp_ge E 98 d_Mo_goesTogether_63 (by decide) (by omega) (by omega) (fun h10 => ?_) (fun h10 => ?_)
            · refine g_iinc (lv' := [(2, .int (nI (t + 1))), (4, .int (nI q_)), (0, .ref (am 0)), (1, .int (nI S))]) E d_Mo_goesTogether_98 1 rfl (nI_inc _) (by decide) rfl ?_
              refine g_goto E 2 d_Mo_goesTogether_101 (by decide) ?_
              refine g_lv [0, 2, 3] rfl ?_
              exact ih_2 (t + 1) (⟨by (try dsimp only); omega, lt_s hI_2.2 (by have e : allN (fun b => !(S.testBit b && cl (10 * t + b))) t = true := allN_iff.mpr (fun j hj => hI_60.2 j (by omega)); rw [agM, e]; simp [nB, h2, hz, h8, h9, h10]; try omega)⟩) (by (try dsimp only); omega)
            · refine g_iload_n E d_Mo_goesTogether_66 rfl 3 rfl ?_
              refine g_iload E d_Mo_goesTogether_67 0 rfl ?_
              refine gpSi (As := [.int (nI S), .int (nI q_)]) (rest := []) E hO (C_Mo_has l S q_ (by omega) (by omega)) (cs_Mo_127 E rfl rfl ⟨Nat.le_of_ble_eq_true rfl, Nat.le_of_ble_eq_true rfl⟩) rfl rfl (Nat.le_of_ble_eq_true rfl) ⟨Nat.zero_le _, Nat.zero_le _⟩ d_Mo_goesTogether_69 ?_
              refine g_bif_eq E 92 d_Mo_goesTogether_72 (by decide) (fun h11 => ?_) (fun h11 => ?_)
              · refine g_iinc (lv' := [(4, .int (nI (q_ + 1))), (2, .int (nI t)), (0, .ref (am 0)), (1, .int (nI S))]) E d_Mo_goesTogether_92 0 rfl (nI_inc _) (by decide) rfl ?_
                refine g_goto E 60 d_Mo_goesTogether_95 (by decide) ?_
                refine g_lv [0, 1, 2, 3] rfl ?_
                exact ih_60 (q_ + 1) (⟨by (try dsimp only); omega, lt_s hI_60.2 (by simp [h11])⟩) (by (try dsimp only); omega)
              · refine g_aload_n E d_Mo_goesTogether_75 rfl 2 rfl ?_
                refine gf_Mo_46 E hO 0 rfl rfl d_Mo_goesTogether_76 ?_
                refine g_bipush (v := nI 10) E d_Mo_goesTogether_79 (by decide) ?_
                refine g_iload_n E d_Mo_goesTogether_81 rfl 1 rfl ?_
                refine g_imul E d_Mo_goesTogether_82 ?_
                refine g_topi (pk_mul _ _) ?_
                refine g_iload E d_Mo_goesTogether_83 0 rfl ?_
                refine g_iadd E d_Mo_goesTogether_85 ?_
                refine g_topi (nI_add _ _) ?_
                refine g_ldB E hO 13 rfl (by omega) (by decide) d_Mo_goesTogether_86 ?_
                refine g_bif_eq E 92 d_Mo_goesTogether_87 (by decide) (fun h12 => ?_) (fun h12 => ?_)
                · refine g_iinc (lv' := [(4, .int (nI (q_ + 1))), (2, .int (nI t)), (0, .ref (am 0)), (1, .int (nI S))]) E d_Mo_goesTogether_92 0 rfl (nI_inc _) (by decide) rfl ?_
                  refine g_goto E 60 d_Mo_goesTogether_95 (by decide) ?_
                  refine g_lv [0, 1, 2, 3] rfl ?_
                  exact ih_60 (q_ + 1) (⟨by (try dsimp only); omega, lt_s hI_60.2 (by simp [h12])⟩) (by (try dsimp only); omega)
                · refine g_iconst (v := nI 0) E d_Mo_goesTogether_90 (by decide) ?_
                  exact g_zret E hr hlk d_Mo_goesTogether_91 (Or.inl rfl) (gq_i (by rw [allN_false (i := t) (by omega) (by rw [agM, allN_false (i := q_) (by omega) (by simp [h2, hz, h8, h9, h10, h11, h12])]; simp [h2, hz, h8, h9, h10, h11, h12])]; rfl))
          · refine g_iconst (v := nI 0) E d_Mo_goesTogether_55 (by decide) ?_
            exact g_zret E hr hlk d_Mo_goesTogether_56 (Or.inl rfl) (gq_i (by rw [allN_false (i := t) (by omega) (by simp [agM, nB, h2, hz, h8, h9])]; rfl))
    · refine g_goto E 98 d_Mo_goesTogether_18 (by decide) ?_
      refine g_iinc (lv' := [(2, .int (nI (t + 1))), (0, .ref (am 0)), (1, .int (nI S))]) E d_Mo_goesTogether_98 0 rfl (nI_inc _) (by decide) rfl ?_
      refine g_goto E 2 d_Mo_goesTogether_101 (by decide) ?_
      refine g_lv [0, 1, 2] rfl ?_
      exact ih_2 (t + 1) (⟨by (try dsimp only); omega, lt_s hI_2.2 (by simp [agM, h2])⟩) (by (try dsimp only); omega)

set_option maxHeartbeats 4000000 in
set_option maxRecDepth 100000 in
theorem C_Mo_costOf (l : Launch) {V : gV} {am : Nat → Nat} {th nY : Nat} {ix bu : Nat → Nat} {np : Nat} {st sr go ca : Nat → Nat} {nw : Nat} {yo ce wo : Nat → Nat} {po ne : Nat → Option Nat} {sv : Nat → Nat} {cl : Nat → Bool} {mk bg dp : Nat} {sh nx : Nat → Nat} {spn : Int} (S y : Nat) (hS : S < 1024) (hy : y < 12) (hnw : nw ≤ 10) (hyo : ∀ w, yo w < 12) (hix : ∀ y, ix y ≤ 2000) (hce : ∀ w, ce w ≤ 1000000) (hsv : ∀ j, sv j ≤ 1000000) : mPl l y_Mo_costOf (w_Mo_costOf :: gt) rm_Mo_costOf V (wM V am th nY ix bu np st sr go ca nw yo ce wo po ne sv cl mk bg dp sh nx spn) [.ref (am 0), .int (nI S), .int (nI y)] (lI (cS ix yo ce (fun a b => sv (10 * a + b)) nw S y)) := by
  refine gMet (V := V) (As := [.ref (am 0), .int (nI S), .int (nI y)]) (cc := c_Mo_costOf) (maxL := 7) (ret := (some .long)) (by decide) rfl (Nat.le_of_ble_eq_true rfl) (fun a U h => ⟨h.1, h.2.2⟩) ?_
  intro p e s m below meth c E hr hlk hnm hv
  have hO := gO_r (locs1 := []) (ws := wM V am th nY ix bu np st sr go ca nw yo ce wo po ne sv cl mk bg dp sh nx spn) hv.2.1
  refine g_lconst (v := lN 0) E d_Mo_costOf_0 (by decide) ?_
  refine g_topl (lN_lI 0) ?_
  refine g_lstore_n (lv' := [(3, .long (lI ((0 : Nat) : Int))), (0, .ref (am 0)), (1, .int (nI S)), (2, .int (nI y))]) E d_Mo_costOf_1 rfl (by decide) rfl ?_
  refine g_iconst (v := nI 0) E d_Mo_costOf_2 (by decide) ?_
  refine g_istore (lv' := [(5, .int (nI 0)), (3, .long (lI ((0 : Nat) : Int))), (0, .ref (am 0)), (1, .int (nI S)), (2, .int (nI y))]) E d_Mo_costOf_3 (by decide) rfl ?_
  refine g_lv [0, 1, 2, 3, 4] rfl ?_
  refine gloop (α := Nat × Int) (fun a_ => gR s.heap []) (fun a_ => [(5, .int (nI a_.1)), (3, .long (lI a_.2)), (0, .ref (am 0)), (1, .int (nI S)), (2, .int (nI y))]) (fun a_ => a_.1 ≤ nw ∧ a_.2 = cR ix yo ce (fun a b => sv (10 * a + b)) S y a_.1) (fun a_ => nw - a_.1) (0, ((0 : Nat) : Int)) (⟨Nat.zero_le _, rfl⟩) ?_
  rintro ⟨t, z⟩ hI_5 ih_5
  try dsimp only at hI_5 ih_5 ⊢
  refine g_iload E d_Mo_costOf_5 0 rfl ?_
  refine g_aload_n E d_Mo_costOf_7 rfl 2 rfl ?_
  refine gf_Mo_75 E hO 0 rfl rfl d_Mo_costOf_8 ?_
  refine g_ncmp_ge E 120 d_Mo_costOf_11 (by decide) (by omega) (by omega) (fun h1 => ?_) (fun h1 => ?_)
  · refine g_lload_n E d_Mo_costOf_120 rfl 1 rfl ?_
    refine g_lconst (v := lN 0) E d_Mo_costOf_121 (by decide) ?_
    have b1 := cR_abs (yo := yo) (ce := ce) (sv := (fun a b => sv (10 * a + b))) (S := S) (y := y) (n := t) (by omega) hix hce (fun a b => hsv _); rw [← hI_5.2] at b1
    refine g_lcmp E d_Mo_costOf_122 ?_
    refine g_if_ge E 130 d_Mo_costOf_123 (by decide) (fun h2 => ?_) (fun h2 => ?_)
    · rw [← Int32.not_lt, lg_lt, show lN 0 = lI 0 from lN_lI 0, lI_lt (by omega) (by omega) (by decide) (by decide)] at h2
      refine g_lload_n E d_Mo_costOf_130 rfl 1 rfl ?_
      exact g_lret E hr hlk d_Mo_costOf_131 (gq_l (by rw [cS, ← show t = nw by omega, ← hI_5.2, mz]; simp [h2]))
    · rw [← Int32.not_lt, lg_lt, show lN 0 = lI 0 from lN_lI 0, lI_lt (by omega) (by omega) (by decide) (by decide), Classical.not_not] at h2
      refine g_lconst (v := lN 0) E d_Mo_costOf_126 (by decide) ?_
      refine g_goto E 131 d_Mo_costOf_127 (by decide) ?_
      exact g_lret E hr hlk d_Mo_costOf_131 (gq_l (by rw [cS, ← show t = nw by omega, ← hI_5.2, mz]; simp [h2]; rfl))
  · have y1 := hyo t; have i1 := hix y; have c1 := hce t; have m1 := Nat.mul_le_mul c1 i1
    refine g_iload_n E d_Mo_costOf_14 rfl 3 rfl ?_
    refine g_iload E d_Mo_costOf_15 0 rfl ?_
    refine gpSi (As := [.int (nI S), .int (nI t)]) (rest := []) E hO (C_Mo_has l S t (by omega) (by omega)) (cs_Mo_127 E rfl rfl ⟨Nat.le_of_ble_eq_true rfl, Nat.le_of_ble_eq_true rfl⟩) rfl rfl (Nat.le_of_ble_eq_true rfl) ⟨Nat.zero_le _, Nat.zero_le _⟩ d_Mo_costOf_17 ?_
    refine g_bif_eq E 114 d_Mo_costOf_20 (by decide) (fun h3 => ?_) (fun h3 => ?_)
    · refine g_iinc (lv' := [(5, .int (nI (t + 1))), (3, .long (lI z)), (0, .ref (am 0)), (1, .int (nI S)), (2, .int (nI y))]) E d_Mo_costOf_114 0 rfl (nI_inc _) (by decide) rfl ?_
      refine g_goto E 5 d_Mo_costOf_117 (by decide) ?_
      refine g_lv [0, 1, 2, 3, 4] rfl ?_
      exact ih_5 (t + 1, z) (⟨by (try dsimp only); omega, by (try dsimp only); rw [hI_5.2]; simp [cR, sumZ, h3]⟩) (by (try dsimp only); omega)
    · refine g_aload_n E d_Mo_costOf_23 rfl 2 rfl ?_
      refine gf_Mo_28 E hO 0 rfl rfl d_Mo_costOf_24 ?_
      refine g_iload E d_Mo_costOf_27 0 rfl ?_
      refine g_ldN E hO 7 rfl (by omega) (by decide) d_Mo_costOf_29 ?_
      refine g_iload_n E d_Mo_costOf_30 rfl 4 rfl ?_
      refine g_ncmp_ne E 114 d_Mo_costOf_31 (by decide) (by omega) (by omega) (fun h4 => ?_) (fun h4 => ?_)
      · refine g_iinc (lv' := [(5, .int (nI (t + 1))), (3, .long (lI z)), (0, .ref (am 0)), (1, .int (nI S)), (2, .int (nI y))]) E d_Mo_costOf_114 0 rfl (nI_inc _) (by decide) rfl ?_
        refine g_goto E 5 d_Mo_costOf_117 (by decide) ?_
        refine g_lv [0, 1, 2, 3, 4] rfl ?_
        exact ih_5 (t + 1, z) (⟨by (try dsimp only); omega, by (try dsimp only); rw [hI_5.2]; simp [cR, sumZ, h3, h4]⟩) (by (try dsimp only); omega)
      · refine g_lload_n E d_Mo_costOf_34 rfl 1 rfl ?_
        refine g_aload_n E d_Mo_costOf_35 rfl 2 rfl ?_
        refine gf_Mo_31 E hO 0 rfl rfl d_Mo_costOf_36 ?_
        refine g_iload E d_Mo_costOf_39 0 rfl ?_
        refine g_ldN E hO 8 rfl (by omega) (by decide) d_Mo_costOf_41 ?_
        refine g_i2l E d_Mo_costOf_42 ?_
        refine g_topl (nI_l (by omega)) ?_
        refine g_aload_n E d_Mo_costOf_43 rfl 2 rfl ?_
        refine gf_Mo_7 E hO 0 rfl rfl d_Mo_costOf_44 ?_
        refine g_iload_n E d_Mo_costOf_47 rfl 4 rfl ?_
        refine g_ldN E hO 1 rfl (by omega) (by decide) d_Mo_costOf_48 ?_
        refine g_i2l E d_Mo_costOf_49 ?_
        refine g_topl (nI_l (by omega)) ?_
        refine g_lmul E d_Mo_costOf_50 ?_
        refine g_topl (lN_mul _ _) ?_
        refine g_ldc2 E kk_Mo_104 d_Mo_costOf_51 ?_
        refine g_topl (show ((1000) : Int64) = lN 1000 from by decide) ?_
        refine g_ldiv E d_Mo_costOf_54 (by decide) ?_
        refine g_topl (pk_lDiv (by omega) (by decide) (by decide)) ?_
        refine g_topl (lN_lI _) ?_
        refine g_ladd E d_Mo_costOf_55 ?_
        refine g_topl (lI_add _ _) ?_
        refine g_lstore_n (lv' := [(3, .long (lI (z + ((ce t * ix y / 1000 : Nat) : Int)))), (5, .int (nI t)), (0, .ref (am 0)), (1, .int (nI S)), (2, .int (nI y))]) E d_Mo_costOf_56 rfl (by decide) rfl ?_
        refine g_iconst (v := nI 0) E d_Mo_costOf_57 (by decide) ?_
        refine g_istore (lv' := [(6, .int (nI 0)), (3, .long (lI (z + ((ce t * ix y / 1000 : Nat) : Int)))), (5, .int (nI t)), (0, .ref (am 0)), (1, .int (nI S)), (2, .int (nI y))]) E d_Mo_costOf_58 (by decide) rfl ?_
        refine g_lv [0, 2, 1, 3, 4, 5] rfl ?_
        refine gloop (α := Nat × Int) (fun a_ => gR s.heap []) (fun a_ => [(6, .int (nI a_.1)), (5, .int (nI t)), (3, .long (lI a_.2)), (0, .ref (am 0)), (1, .int (nI S)), (2, .int (nI y))]) (fun a_ => a_.1 ≤ t ∧ a_.2 = cR ix yo ce (fun a b => sv (10 * a + b)) S y t + ((ce t * ix y / 1000 : Nat) : Int) - ((sW yo (fun a b => sv (10 * a + b)) S t a_.1 : Nat) : Int)) (fun a_ => t - a_.1) (0, z + ((ce t * ix y / 1000 : Nat) : Int)) (⟨Nat.zero_le _, by (try dsimp only); rw [hI_5.2]; simp [sW, sumN]⟩) ?_
        rintro ⟨q, z2⟩ hI_60 ih_60
        try dsimp only at hI_60 ih_60 ⊢
        refine g_iload E d_Mo_costOf_60 0 rfl ?_
        refine g_iload E d_Mo_costOf_62 1 rfl ?_
        refine g_ncmp_ge E 114 d_Mo_costOf_64 (by decide) (by omega) (by omega) (fun h5 => ?_) (fun h5 => ?_)
        · refine g_iinc (lv' := [(5, .int (nI (t + 1))), (6, .int (nI q)), (3, .long (lI z2)), (0, .ref (am 0)), (1, .int (nI S)), (2, .int (nI y))]) E d_Mo_costOf_114 1 rfl (nI_inc _) (by decide) rfl ?_
          refine g_goto E 5 d_Mo_costOf_117 (by decide) ?_
          refine g_lv [0, 2, 3, 4, 5] rfl ?_
          exact ih_5 (t + 1, z2) (⟨by (try dsimp only); omega, by (try dsimp only); rw [hI_60.2, show q = t by omega]; simp [cR, sumZ, h3, h4]; try omega⟩) (by (try dsimp only); omega)
        · have y2 := hyo q
          refine g_lload_n E d_Mo_costOf_67 rfl 2 rfl ?_
          refine g_iload_n E d_Mo_costOf_68 rfl 4 rfl ?_
          refine g_iload E d_Mo_costOf_69 0 rfl ?_
          refine gpSi (As := [.int (nI S), .int (nI q)]) (rest := [.long (lI z2)]) E hO (C_Mo_has l S q (by omega) (by omega)) (cs_Mo_127 E rfl rfl ⟨Nat.le_of_ble_eq_true rfl, Nat.le_of_ble_eq_true rfl⟩) rfl rfl (Nat.le_of_ble_eq_true rfl) ⟨Nat.zero_le _, Nat.zero_le _⟩ d_Mo_costOf_71 ?_
          refine g_bif_eq E 105 d_Mo_costOf_74 (by decide) (fun h6 => ?_) (fun h6 => ?_)
          · refine g_lconst (v := lN 0) E d_Mo_costOf_105 (by decide) ?_
            refine g_topl (lN_lI _) ?_
            refine g_lsub E d_Mo_costOf_106 ?_
            refine g_topl (lI_sub _ _) ?_
            refine g_lstore_n (lv' := [(3, .long (lI (z2 - ((0 : Nat) : Int)))), (6, .int (nI q)), (5, .int (nI t)), (0, .ref (am 0)), (1, .int (nI S)), (2, .int (nI y))]) E d_Mo_costOf_107 rfl (by decide) rfl ?_
            refine g_iinc (lv' := [(6, .int (nI (q + 1))), (3, .long (lI (z2 - ((0 : Nat) : Int)))), (5, .int (nI t)), (0, .ref (am 0)), (1, .int (nI S)), (2, .int (nI y))]) E d_Mo_costOf_108 1 rfl (nI_inc _) (by decide) rfl ?_
            refine g_goto E 60 d_Mo_costOf_111 (by decide) ?_
            refine g_lv [0, 2, 1, 3, 4, 5] rfl ?_
            exact ih_60 (q + 1, z2 - ((0 : Nat) : Int)) (⟨by (try dsimp only); omega, by (try dsimp only); rw [hI_60.2]; simp [sW, sumN, h3, h4, h5, h6]; try omega⟩) (by (try dsimp only); omega)
          · refine g_aload_n E d_Mo_costOf_77 rfl 3 rfl ?_
            refine gf_Mo_28 E hO 0 rfl rfl d_Mo_costOf_78 ?_
            refine g_iload E d_Mo_costOf_81 0 rfl ?_
            refine g_ldN E hO 7 rfl (by omega) (by decide) d_Mo_costOf_83 ?_
            refine g_iload_n E d_Mo_costOf_84 rfl 5 rfl ?_
            refine g_ncmp_ne E 105 d_Mo_costOf_85 (by decide) (by omega) (by omega) (fun h7 => ?_) (fun h7 => ?_)
            · refine g_lconst (v := lN 0) E d_Mo_costOf_105 (by decide) ?_
              refine g_topl (lN_lI _) ?_
              refine g_lsub E d_Mo_costOf_106 ?_
              refine g_topl (lI_sub _ _) ?_
              refine g_lstore_n (lv' := [(3, .long (lI (z2 - ((0 : Nat) : Int)))), (6, .int (nI q)), (5, .int (nI t)), (0, .ref (am 0)), (1, .int (nI S)), (2, .int (nI y))]) E d_Mo_costOf_107 rfl (by decide) rfl ?_
              refine g_iinc (lv' := [(6, .int (nI (q + 1))), (3, .long (lI (z2 - ((0 : Nat) : Int)))), (5, .int (nI t)), (0, .ref (am 0)), (1, .int (nI S)), (2, .int (nI y))]) E d_Mo_costOf_108 1 rfl (nI_inc _) (by decide) rfl ?_
              refine g_goto E 60 d_Mo_costOf_111 (by decide) ?_
              refine g_lv [0, 2, 1, 3, 4, 5] rfl ?_
              exact ih_60 (q + 1, z2 - ((0 : Nat) : Int)) (⟨by (try dsimp only); omega, by (try dsimp only); rw [hI_60.2]; simp [sW, sumN, h3, h4, h5, h6, h7]; try omega⟩) (by (try dsimp only); omega)
            · refine g_aload_n E d_Mo_costOf_88 rfl 3 rfl ?_
              refine gf_Mo_43 E hO 0 rfl rfl d_Mo_costOf_89 ?_
              refine g_bipush (v := nI 10) E d_Mo_costOf_92 (by decide) ?_
              refine g_iload E d_Mo_costOf_94 1 rfl ?_
              refine g_imul E d_Mo_costOf_96 ?_
              refine g_topi (pk_mul _ _) ?_
              refine g_iload E d_Mo_costOf_97 0 rfl ?_
              refine g_iadd E d_Mo_costOf_99 ?_
              refine g_topi (nI_add _ _) ?_
              refine g_ldN E hO 12 rfl (by omega) (by decide) d_Mo_costOf_100 ?_
              have v1 := hsv (10 * t + q)
              refine g_i2l E d_Mo_costOf_101 ?_
              refine g_topl (nI_l (by omega)) ?_
              refine g_goto E 106 d_Mo_costOf_102 (by decide) ?_
              refine g_topl (lN_lI _) ?_
              refine g_lsub E d_Mo_costOf_106 ?_
              refine g_topl (lI_sub _ _) ?_
              refine g_lstore_n (lv' := [(3, .long (lI (z2 - ((sv ((10 * t) + q) : Nat) : Int)))), (6, .int (nI q)), (5, .int (nI t)), (0, .ref (am 0)), (1, .int (nI S)), (2, .int (nI y))]) E d_Mo_costOf_107 rfl (by decide) rfl ?_
              refine g_iinc (lv' := [(6, .int (nI (q + 1))), (3, .long (lI (z2 - ((sv ((10 * t) + q) : Nat) : Int)))), (5, .int (nI t)), (0, .ref (am 0)), (1, .int (nI S)), (2, .int (nI y))]) E d_Mo_costOf_108 1 rfl (nI_inc _) (by decide) rfl ?_
              refine g_goto E 60 d_Mo_costOf_111 (by decide) ?_
              refine g_lv [0, 2, 1, 3, 4, 5] rfl ?_
              exact ih_60 (q + 1, z2 - ((sv ((10 * t) + q) : Nat) : Int)) (⟨by (try dsimp only); omega, by (try dsimp only); rw [hI_60.2]; simp [sW, sumN, h3, h4, h5, h6, h7]; try omega⟩) (by (try dsimp only); omega)

set_option maxHeartbeats 4000000 in
set_option maxRecDepth 100000 in
theorem C_Mo_lackOf (l : Launch) {V : gV} {am : Nat → Nat} {th nY : Nat} {ix bu : Nat → Nat} {np : Nat} {st sr go ca : Nat → Nat} {nw : Nat} {yo ce wo : Nat → Nat} {po ne : Nat → Option Nat} {sv : Nat → Nat} {cl : Nat → Bool} {mk bg dp : Nat} {sh nx : Nat → Nat} {spn : Int} (S : Nat) (hS : S < 1024) (hY : nY ≤ 12) (hbu : ∀ y, bu y ≤ 1000000000) (hnw : nw ≤ 10) (hyo : ∀ w, yo w < 12) (hix : ∀ y, ix y ≤ 2000) (hce : ∀ w, ce w ≤ 1000000) (hsv : ∀ j, sv j ≤ 1000000) : mWl l y_Mo_lackOf (w_Mo_lackOf :: gt) rm_Mo_lackOf V (wM V am th nY ix bu np st sr go ca nw yo ce wo po ne sv cl mk bg dp sh nx spn) [.ref (am 0), .int (nI S)] (lI (oB bu (cS ix yo ce (fun a b => sv (10 * a + b)) nw S) nY)) (wM V am th nY ix bu np st sr go ca nw yo ce wo po ne sv cl mk bg dp sh nx (sumZ (cS ix yo ce (fun a b => sv (10 * a + b)) nw S) nY)) 0 0 := by
  intro sz
  refine gMet (V := V) (As := [.ref (am 0), .int (nI S)]) (cc := c_Mo_lackOf) (maxL := 7) (ret := (some .long)) (by decide) rfl (Nat.le_of_ble_eq_true rfl) (fun a U h => ⟨h.1, h.2.2.2.1⟩) ?_
  intro p e s m below meth c E hr hlk hnm hv
  refine g_toW (sz := sz) (w := wM V am th nY ix bu np st sr go ca nw yo ce wo po ne sv cl mk bg dp sh nx spn) hv.2.2.1 hv.2.2.2.2 ?_
  have hA0 : ∀ q : Nat, s.heap.size ≤ q → va_A (wM V am th nY ix bu np st sr go ca nw yo ce wo po ne sv cl mk bg dp sh nx spn) sz q := fun q h => Or.inr (by rw [← hv.2.1]; exact h)
  have bC : ∀ y, 0 ≤ cS ix yo ce (fun a b => sv (10 * a + b)) nw S y ∧ cS ix yo ce (fun a b => sv (10 * a + b)) nw S y ≤ 100000000 := fun y => cS_abs hnw hix hce (fun a b => hsv _)
  refine g_lconst (v := lN 0) E d_Mo_lackOf_0 (by decide) ?_
  refine g_topl (lN_lI 0) ?_
  refine g_lstore_n (lv' := [(2, .long (lI ((0 : Nat) : Int))), (0, .ref (am 0)), (1, .int (nI S))]) E d_Mo_lackOf_1 rfl (by decide) rfl ?_
  refine g_aload_n E d_Mo_lackOf_2 rfl 1 rfl ?_
  refine g_lconst (v := lN 0) E d_Mo_lackOf_3 (by decide) ?_
  refine g_topl (lN_lI 0) ?_
  refine pf_Mo_130 (ws' := wM V am th nY ix bu np st sr go ca nw yo ce wo po ne sv cl mk bg dp sh nx ((0 : Nat) : Int)) E 0 rfl rfl rfl (Nat.le_of_ble_eq_true rfl) rfl d_Mo_lackOf_4 ?_
  refine g_iconst (v := nI 0) E d_Mo_lackOf_7 (by decide) ?_
  refine g_istore (lv' := [(4, .int (nI 0)), (2, .long (lI ((0 : Nat) : Int))), (0, .ref (am 0)), (1, .int (nI S))]) E d_Mo_lackOf_8 (by decide) rfl ?_
  refine g_lv [0, 1, 2, 3] rfl ?_
  refine g_ws (ws' := wM V am th nY ix bu np st sr go ca nw yo ce wo po ne sv cl mk bg dp sh nx (sumZ (cS ix yo ce (fun a b => sv (10 * a + b)) nw S) 0)) rfl ?_
  refine gloop (α := Nat × Int) (fun a_ => gW V _ _ (wM V am th nY ix bu np st sr go ca nw yo ce wo po ne sv cl mk bg dp sh nx (sumZ (cS ix yo ce (fun a b => sv (10 * a + b)) nw S) a_.1))) (fun a_ => [(4, .int (nI a_.1)), (2, .long (lI a_.2)), (0, .ref (am 0)), (1, .int (nI S))]) (fun a_ => a_.1 ≤ nY ∧ a_.2 = oB bu (cS ix yo ce (fun a b => sv (10 * a + b)) nw S) a_.1) (fun a_ => nY - a_.1) (0, ((0 : Nat) : Int)) (⟨Nat.zero_le _, rfl⟩) ?_
  rintro ⟨t, z⟩ hI_10 ih_10
  try dsimp only at hI_10 ih_10 ⊢
  refine g_iload E d_Mo_lackOf_10 0 rfl ?_
  refine g_aload_n E d_Mo_lackOf_12 rfl 2 rfl ?_
  refine gf_Mo_57 E gO_w 0 rfl rfl d_Mo_lackOf_13 ?_
  refine g_ncmp_ge E 77 d_Mo_lackOf_16 (by decide) (by omega) (by omega) (fun h1 => ?_) (fun h1 => ?_)
  · refine g_lload_n E d_Mo_lackOf_77 rfl 1 rfl ?_
    refine g_ws (ws' := wM V am th nY ix bu np st sr go ca nw yo ce wo po ne sv cl mk bg dp sh nx (sumZ (cS ix yo ce (fun a b => sv (10 * a + b)) nw S) nY)) (by rw [show t = nY by omega]) ?_
    exact g_lret E hr hlk d_Mo_lackOf_78 (gq_wl (w1 := fun _ => wM V am th nY ix bu np st sr go ca nw yo ce wo po ne sv cl mk bg dp sh nx (sumZ (cS ix yo ce (fun a b => sv (10 * a + b)) nw S) nY)) () (by rw [hI_10.2, show t = nY by omega]))
  · refine g_aload_n E d_Mo_lackOf_19 rfl 2 rfl ?_
    refine g_iload_n E d_Mo_lackOf_20 rfl 3 rfl ?_
    refine g_iload E d_Mo_lackOf_21 0 rfl ?_
    refine gpVl (As := [.int (nI S), .int (nI t)]) (rest := []) E gO_w 0 rfl rfl (C_Mo_costOf l S t (by omega) (by omega) hnw hyo hix hce hsv) (cs_Mo_134 E rfl rfl ⟨Nat.le_of_ble_eq_true rfl, Nat.le_of_ble_eq_true rfl⟩) rfl rfl (Nat.le_of_ble_eq_true rfl) ⟨Nat.zero_le _, Nat.zero_le _⟩ d_Mo_lackOf_23 ?_
    refine g_lstore (lv' := [(5, .long (lI (cS ix yo ce (fun a b => sv (10 * a + b)) nw S t))), (4, .int (nI t)), (2, .long (lI z)), (0, .ref (am 0)), (1, .int (nI S))]) E d_Mo_lackOf_26 (by decide) rfl ?_
    have b1 := bC t; have b2 := hbu t
    refine g_aload_n E d_Mo_lackOf_28 rfl 3 rfl ?_
    refine g_dup E d_Mo_lackOf_29 rfl ?_
    refine gf_Mo_130 E gO_w 0 rfl rfl d_Mo_lackOf_30 ?_
    refine g_lload E d_Mo_lackOf_33 0 rfl ?_
    refine g_ladd E d_Mo_lackOf_35 ?_
    refine g_topl (lI_add _ _) ?_
    refine pf_Mo_130 (ws' := wM V am th nY ix bu np st sr go ca nw yo ce wo po ne sv cl mk bg dp sh nx ((sumZ (cS ix yo ce (fun a b => sv (10 * a + b)) nw S) t) + (cS ix yo ce (fun a b => sv (10 * a + b)) nw S t))) E 0 rfl rfl rfl (Nat.le_of_ble_eq_true rfl) rfl d_Mo_lackOf_36 ?_
    refine g_lload_n E d_Mo_lackOf_39 rfl 2 rfl ?_
    refine g_lload E d_Mo_lackOf_40 0 rfl ?_
    refine g_aload_n E d_Mo_lackOf_42 rfl 3 rfl ?_
    refine gf_Mo_13 E gO_w 0 rfl rfl d_Mo_lackOf_43 ?_
    refine g_iload E d_Mo_lackOf_46 1 rfl ?_
    refine g_ldN E gO_w 2 rfl (by omega) (by decide) d_Mo_lackOf_48 ?_
    refine g_i2l E d_Mo_lackOf_49 ?_
    refine g_topl (nI_l (by omega)) ?_
    refine g_lcmp E d_Mo_lackOf_50 ?_
    refine g_if_le E 68 d_Mo_lackOf_51 (by decide) (fun h2 => ?_) (fun h2 => ?_)
    · rw [← Int32.not_lt, lg_gt, lN_lI, lI_lt (by omega) (by omega) (by omega) (by omega)] at h2
      refine g_lconst (v := lN 0) E d_Mo_lackOf_68 (by decide) ?_
      refine g_topl (lN_lI 0) ?_
      refine g_ladd E d_Mo_lackOf_69 ?_
      refine g_topl (lI_add _ _) ?_
      refine g_lstore_n (lv' := [(2, .long (lI (z + ((0 : Nat) : Int)))), (5, .long (lI (cS ix yo ce (fun a b => sv (10 * a + b)) nw S t))), (4, .int (nI t)), (0, .ref (am 0)), (1, .int (nI S))]) E d_Mo_lackOf_70 rfl (by decide) rfl ?_
      refine g_iinc (lv' := [(4, .int (nI (t + 1))), (2, .long (lI (z + ((0 : Nat) : Int)))), (5, .long (lI (cS ix yo ce (fun a b => sv (10 * a + b)) nw S t))), (0, .ref (am 0)), (1, .int (nI S))]) E d_Mo_lackOf_71 2 rfl (nI_inc _) (by decide) rfl ?_
      refine g_goto E 10 d_Mo_lackOf_74 (by decide) ?_
      refine g_lv [0, 1, 3, 4] rfl ?_
      refine g_ws (ws' := wM V am th nY ix bu np st sr go ca nw yo ce wo po ne sv cl mk bg dp sh nx (sumZ (cS ix yo ce (fun a b => sv (10 * a + b)) nw S) (t + 1))) rfl ?_
      exact ih_10 (t + 1, z + ((0 : Nat) : Int)) (⟨by (try dsimp only); omega, by (try dsimp only); rw [hI_10.2]; show _ = oB bu (cS ix yo ce (fun a b => sv (10 * a + b)) nw S) t + mz _; unfold mz; split <;> omega⟩) (by (try dsimp only); omega)
    · rw [← Int32.not_lt, lg_gt, lN_lI, lI_lt (by omega) (by omega) (by omega) (by omega), Classical.not_not] at h2
      refine g_lload E d_Mo_lackOf_54 0 rfl ?_
      refine g_aload_n E d_Mo_lackOf_56 rfl 3 rfl ?_
      refine gf_Mo_13 E gO_w 0 rfl rfl d_Mo_lackOf_57 ?_
      refine g_iload E d_Mo_lackOf_60 1 rfl ?_
      refine g_ldN E gO_w 2 rfl (by omega) (by decide) d_Mo_lackOf_62 ?_
      refine g_i2l E d_Mo_lackOf_63 ?_
      refine g_topl (nI_l (by omega)) ?_
      refine g_lsub E d_Mo_lackOf_64 ?_
      refine g_topl (by rw [lN_lI, lI_sub]) ?_
      refine g_goto E 69 d_Mo_lackOf_65 (by decide) ?_
      refine g_ladd E d_Mo_lackOf_69 ?_
      refine g_topl (lI_add _ _) ?_
      refine g_lstore_n (lv' := [(2, .long (lI (z + (cS ix yo ce (fun a b => sv (10 * a + b)) nw S t - ((bu t : Nat) : Int))))), (5, .long (lI (cS ix yo ce (fun a b => sv (10 * a + b)) nw S t))), (4, .int (nI t)), (0, .ref (am 0)), (1, .int (nI S))]) E d_Mo_lackOf_70 rfl (by decide) rfl ?_
      refine g_iinc (lv' := [(4, .int (nI (t + 1))), (2, .long (lI (z + (cS ix yo ce (fun a b => sv (10 * a + b)) nw S t - ((bu t : Nat) : Int))))), (5, .long (lI (cS ix yo ce (fun a b => sv (10 * a + b)) nw S t))), (0, .ref (am 0)), (1, .int (nI S))]) E d_Mo_lackOf_71 2 rfl (nI_inc _) (by decide) rfl ?_
      refine g_goto E 10 d_Mo_lackOf_74 (by decide) ?_
      refine g_lv [0, 1, 3, 4] rfl ?_
      refine g_ws (ws' := wM V am th nY ix bu np st sr go ca nw yo ce wo po ne sv cl mk bg dp sh nx (sumZ (cS ix yo ce (fun a b => sv (10 * a + b)) nw S) (t + 1))) rfl ?_
      exact ih_10 (t + 1, z + (cS ix yo ce (fun a b => sv (10 * a + b)) nw S t - ((bu t : Nat) : Int))) (⟨by (try dsimp only); omega, by (try dsimp only); rw [hI_10.2]; show _ = oB bu (cS ix yo ce (fun a b => sv (10 * a + b)) nw S) t + mz _; unfold mz; split <;> omega⟩) (by (try dsimp only); omega)

set_option maxHeartbeats 4000000 in
set_option maxRecDepth 100000 in
theorem C_Mo_isLoan (l : Launch) {V : gV} {w : va_W} (x y z : Int32) : mPi l y_Mo_isLoan (w_Mo_isLoan :: gt) rm_Mo_isLoan V (w  ) [.int x, .int y, .int z] (bI (isL x y z)) := by
  refine gMet (V := V) (As := [.int x, .int y, .int z]) (cc := c_Mo_isLoan) (maxL := 3) (ret := (some .boolean)) (by decide) rfl (Nat.le_of_ble_eq_true rfl) (fun a U h => ⟨h.1, h.2.2⟩) ?_
  intro p e s m below meth c E hr hlk hnm hv
  have hO := gO_r (locs1 := []) (ws := w  ) hv.2.1
  refine g_iload_n E d_Mo_isLoan_0 rfl 0 rfl ?_
  refine g_i2l E d_Mo_isLoan_1 ?_
  refine g_lconst (v := lN 1) E d_Mo_isLoan_2 (by decide) ?_
  refine g_ldc2 E kk_Mo_88 d_Mo_isLoan_3 ?_
  refine g_topl (show ((1000000000) : Int64) = lN 1000000000 from by decide) ?_
  refine gpSi (As := [.long x.toInt64, .long (lN 1), .long (lN 1000000000)]) (rest := []) E hO (C_Mo_within l x.toInt64 (lN 1) (lN 1000000000)) (cs_Mo_64 E rfl rfl ⟨Nat.le_of_ble_eq_true rfl, Nat.le_of_ble_eq_true rfl⟩) rfl rfl (Nat.le_of_ble_eq_true rfl) ⟨Nat.zero_le _, Nat.zero_le _⟩ d_Mo_isLoan_6 ?_
  refine g_topi (congrArg bI (inBL_B x (by omega) (by omega))) ?_
  refine g_bif_eq E 40 d_Mo_isLoan_9 (by decide) (fun h1 => ?_) (fun h1 => ?_)
  · refine g_iconst (v := nI 0) E d_Mo_isLoan_40 (by decide) ?_
    exact g_zret E hr hlk d_Mo_isLoan_41 (Or.inl rfl) (gq_i (by simp only [isL, h1, Bool.false_and, Bool.true_and, Bool.and_false, Bool.and_true]; rfl))
  · refine g_iload_n E d_Mo_isLoan_12 rfl 1 rfl ?_
    refine g_i2l E d_Mo_isLoan_13 ?_
    refine g_lconst (v := lN 0) E d_Mo_isLoan_14 (by decide) ?_
    refine g_ldc2 E kk_Mo_83 d_Mo_isLoan_15 ?_
    refine g_topl (show ((2000) : Int64) = lN 2000 from by decide) ?_
    refine gpSi (As := [.long y.toInt64, .long (lN 0), .long (lN 2000)]) (rest := []) E hO (C_Mo_within l y.toInt64 (lN 0) (lN 2000)) (cs_Mo_64 E rfl rfl ⟨Nat.le_of_ble_eq_true rfl, Nat.le_of_ble_eq_true rfl⟩) rfl rfl (Nat.le_of_ble_eq_true rfl) ⟨Nat.zero_le _, Nat.zero_le _⟩ d_Mo_isLoan_18 ?_
    refine g_topi (congrArg bI (inBL_B y (by omega) (by omega))) ?_
    refine g_bif_eq E 40 d_Mo_isLoan_21 (by decide) (fun h2 => ?_) (fun h2 => ?_)
    · refine g_iconst (v := nI 0) E d_Mo_isLoan_40 (by decide) ?_
      exact g_zret E hr hlk d_Mo_isLoan_41 (Or.inl rfl) (gq_i (by simp only [isL, h1, h2, Bool.false_and, Bool.true_and, Bool.and_false, Bool.and_true]; rfl))
    · refine g_iload_n E d_Mo_isLoan_24 rfl 2 rfl ?_
      refine g_i2l E d_Mo_isLoan_25 ?_
      refine g_lconst (v := lN 1) E d_Mo_isLoan_26 (by decide) ?_
      refine g_ldc2 E kk_Mo_163 d_Mo_isLoan_27 ?_
      refine g_topl (show ((30) : Int64) = lN 30 from by decide) ?_
      refine gpSi (As := [.long z.toInt64, .long (lN 1), .long (lN 30)]) (rest := []) E hO (C_Mo_within l z.toInt64 (lN 1) (lN 30)) (cs_Mo_64 E rfl rfl ⟨Nat.le_of_ble_eq_true rfl, Nat.le_of_ble_eq_true rfl⟩) rfl rfl (Nat.le_of_ble_eq_true rfl) ⟨Nat.zero_le _, Nat.zero_le _⟩ d_Mo_isLoan_30 ?_
      refine g_topi (congrArg bI (inBL_B z (by omega) (by omega))) ?_
      refine g_bif_eq E 40 d_Mo_isLoan_33 (by decide) (fun h3 => ?_) (fun h3 => ?_)
      · refine g_iconst (v := nI 0) E d_Mo_isLoan_40 (by decide) ?_
        exact g_zret E hr hlk d_Mo_isLoan_41 (Or.inl rfl) (gq_i (by simp only [isL, h1, h2, h3, Bool.false_and, Bool.true_and, Bool.and_false, Bool.and_true]; rfl))
      · refine g_iconst (v := nI 1) E d_Mo_isLoan_36 (by decide) ?_
        refine g_goto E 41 d_Mo_isLoan_37 (by decide) ?_
        exact g_zret E hr hlk d_Mo_isLoan_41 (Or.inr rfl) (gq_i (by simp only [isL, h1, h2, h3, Bool.false_and, Bool.true_and, Bool.and_false, Bool.and_true]; rfl))

theorem ri_le {x r : Nat} (hx : x ≤ 300000000000) (hr : r ≤ 2000) : ri x r ≤ 300000000000 := by
  have := Nat.mul_le_mul hx hr
  unfold ri; omega

set_option maxHeartbeats 4000000 in
set_option maxRecDepth 100000 in
theorem C_Mo_restOf (l : Launch) {V : gV} {w : va_W} (k r n q : Nat) (hn : n ≤ 30) (hc : k ≤ 1000000000) (hrt : r ≤ 2000) (hq : q < 2 ^ 40) : mPl l y_Mo_restOf (w_Mo_restOf :: gt) rm_Mo_restOf V (w  ) [.long (lN k), .int (nI r), .int (nI n), .long (lN q)] (lN (rB k r q n)) := by
  refine gMet (V := V) (As := [.long (lN k), .int (nI r), .int (nI n), .long (lN q)]) (cc := c_Mo_restOf) (maxL := 9) (ret := (some .long)) (by decide) rfl (Nat.le_of_ble_eq_true rfl) (fun a U h => ⟨h.1, h.2.2⟩) ?_
  intro p e s m below meth c E hr hlk hnm hv
  have hO := gO_r (locs1 := []) (ws := w  ) hv.2.1
  refine g_lload_n E d_Mo_restOf_0 rfl 0 rfl ?_
  refine g_lstore (lv' := [(6, .long (lN k)), (0, .long (lN k)), (2, .int (nI r)), (3, .int (nI n)), (4, .long (lN q))]) E d_Mo_restOf_1 (by decide) rfl ?_
  refine g_iconst (v := nI 0) E d_Mo_restOf_3 (by decide) ?_
  refine g_istore (lv' := [(8, .int (nI 0)), (6, .long (lN k)), (0, .long (lN k)), (2, .int (nI r)), (3, .int (nI n)), (4, .long (lN q))]) E d_Mo_restOf_4 (by decide) rfl ?_
  refine g_lv [0, 1, 2, 3, 4, 5] rfl ?_
  refine gloop (α := Nat × Nat) (fun a_ => gR s.heap []) (fun a_ => [(8, .int (nI a_.1)), (6, .long (lN a_.2)), (0, .long (lN k)), (2, .int (nI r)), (3, .int (nI n)), (4, .long (lN q))]) (fun a_ => a_.1 ≤ n ∧ a_.2 = rB k r q a_.1) (fun a_ => n - a_.1) (0, k) (⟨Nat.zero_le _, rfl⟩) ?_
  rintro ⟨i, x⟩ hI_6 ih_6
  try dsimp only at hI_6 ih_6 ⊢
  refine g_iload E d_Mo_restOf_6 0 rfl ?_
  refine g_iload_n E d_Mo_restOf_8 rfl 4 rfl ?_
  refine g_ncmp_ge E 54 d_Mo_restOf_9 (by decide) (by omega) (by omega) (fun h1 => ?_) (fun h1 => ?_)
  · refine g_lload E d_Mo_restOf_54 1 rfl ?_
    exact g_lret E hr hlk d_Mo_restOf_56 (gq_l (by rw [hI_6.2, show i = n by omega]))
  · have b1 := rB_le (p := q) (k := i) hc hrt (by omega)
    rw [← hI_6.2] at b1
    have b2 := Nat.mul_le_mul b1 hrt
    have b3 := ri_le b1 hrt
    refine g_lload E d_Mo_restOf_12 1 rfl ?_
    refine g_lload E d_Mo_restOf_14 1 rfl ?_
    refine g_iload_n E d_Mo_restOf_16 rfl 3 rfl ?_
    refine g_i2l E d_Mo_restOf_17 ?_
    refine g_topl (nI_l (by omega)) ?_
    refine g_lmul E d_Mo_restOf_18 ?_
    refine g_topl (lN_mul _ _) ?_
    refine g_ldc2 E kk_Mo_153 d_Mo_restOf_19 ?_
    refine g_topl (show ((9999) : Int64) = lN 9999 from by decide) ?_
    refine g_ladd E d_Mo_restOf_22 ?_
    refine g_topl (lN_add _ _) ?_
    refine g_ldc2 E kk_Mo_155 d_Mo_restOf_23 ?_
    refine g_topl (show ((10000) : Int64) = lN 10000 from by decide) ?_
    refine g_ldiv E d_Mo_restOf_26 (by decide) ?_
    refine g_topl (pk_lDiv (by omega) (by decide) (by decide)) ?_
    refine g_lload E d_Mo_restOf_27 5 rfl ?_
    refine g_lsub E d_Mo_restOf_29 ?_
    refine g_topl (by rw [lN_lI, lN_lI, lI_sub]) ?_
    refine g_ladd E d_Mo_restOf_30 ?_
    refine g_topl (by rw [lN_lI, lI_add]) ?_
    refine g_lstore (lv' := [(6, .long (lI ((x : Int) + ((ri x r : Int) - (q : Int))))), (8, .int (nI i)), (0, .long (lN k)), (2, .int (nI r)), (3, .int (nI n)), (4, .long (lN q))]) E d_Mo_restOf_31 (by decide) rfl ?_
    refine g_lload E d_Mo_restOf_33 0 rfl ?_
    refine g_lconst (v := lN 0) E d_Mo_restOf_35 (by decide) ?_
    refine g_lcmp E d_Mo_restOf_36 ?_
    refine g_if_ge E 44 d_Mo_restOf_37 (by decide) (fun h2 => ?_) (fun h2 => ?_)
    · rw [← Int32.not_lt, lg_lt, show lN 0 = lI 0 from lN_lI 0, lI_lt (by omega) (by omega) (by decide) (by decide)] at h2
      refine g_lload E d_Mo_restOf_44 0 rfl ?_
      refine g_topl (show lI _ = lN (x + ri x r - q) from by rw [lN_lI]; congr 1; omega) ?_
      refine g_lstore (lv' := [(6, .long (lN (x + ri x r - q))), (8, .int (nI i)), (0, .long (lN k)), (2, .int (nI r)), (3, .int (nI n)), (4, .long (lN q))]) E d_Mo_restOf_46 (by decide) rfl ?_
      refine g_iinc (lv' := [(8, .int (nI (i + 1))), (6, .long (lN (x + ri x r - q))), (0, .long (lN k)), (2, .int (nI r)), (3, .int (nI n)), (4, .long (lN q))]) E d_Mo_restOf_48 1 rfl (nI_inc _) (by decide) rfl ?_
      refine g_goto E 6 d_Mo_restOf_51 (by decide) ?_
      refine g_lv [0, 1, 2, 3, 4, 5] rfl ?_
      exact ih_6 (i + 1, x + ri x r - q) (⟨by (try dsimp only); omega, by (try dsimp only); rw [rB, ← hI_6.2]⟩) (by (try dsimp only); omega)
    · rw [← Int32.not_lt, lg_lt, show lN 0 = lI 0 from lN_lI 0, lI_lt (by omega) (by omega) (by decide) (by decide), Classical.not_not] at h2
      refine g_lconst (v := lN 0) E d_Mo_restOf_40 (by decide) ?_
      refine g_goto E 46 d_Mo_restOf_41 (by decide) ?_
      refine g_topl (show lN 0 = lN (x + ri x r - q) from by rw [show x + ri x r - q = 0 by omega]) ?_
      refine g_lstore (lv' := [(6, .long (lN (x + ri x r - q))), (8, .int (nI i)), (0, .long (lN k)), (2, .int (nI r)), (3, .int (nI n)), (4, .long (lN q))]) E d_Mo_restOf_46 (by decide) rfl ?_
      refine g_iinc (lv' := [(8, .int (nI (i + 1))), (6, .long (lN (x + ri x r - q))), (0, .long (lN k)), (2, .int (nI r)), (3, .int (nI n)), (4, .long (lN q))]) E d_Mo_restOf_48 1 rfl (nI_inc _) (by decide) rfl ?_
      refine g_goto E 6 d_Mo_restOf_51 (by decide) ?_
      refine g_lv [0, 1, 2, 3, 4, 5] rfl ?_
      exact ih_6 (i + 1, x + ri x r - q) (⟨by (try dsimp only); omega, by (try dsimp only); rw [rB, ← hI_6.2]⟩) (by (try dsimp only); omega)

theorem rB_anti {c r p q : Nat} (h : p ≤ q) : ∀ k, rB c r q k ≤ rB c r p k
  | 0 => Nat.le_refl _
  | k + 1 => by
    have h1 := rB_anti (c := c) (r := r) h k
    have h2 := ri_mono h1 (Nat.le_refl r)
    simp only [rB]; omega
theorem rB_0 {c r : Nat} : ∀ k, c ≤ rB c r 0 k
  | 0 => Nat.le_refl _
  | k + 1 => by
    have h1 := rB_0 (c := c) (r := r) k
    simp only [rB]; omega
theorem rB_z {c r p : Nat} (hc : c ≤ 1000000000) (hr : r ≤ 2000) (hp : 2000000000 ≤ p) : ∀ k, rB c r p (k + 1) = 0
  | 0 => by
    have := ri_mono hc hr
    have h2 : ri 1000000000 2000 = 200000000 := by decide
    simp only [rB]; omega
  | k + 1 => by
    have h1 := rB_z hc hr hp k
    have h2 : ri 0 r = 0 := by unfold ri; simp
    rw [rB, h1, h2]; omega
theorem lp_inv {c r n : Nat} (h1 : 1 ≤ c) (hc : c ≤ 1000000000) (hr : r ≤ 2000) (hn : 1 ≤ n) : ∀ j, j ≤ 31 → rB c r (lpN c r n j) n ≠ 0 ∧ rB c r (lpN c r n j + 2 ^ (31 - j)) n = 0
  | 0, _ => by
    have h2 := rB_0 (c := c) (r := r) n
    have h3 := rB_z (c := c) (r := r) (p := 0 + 2 ^ (31 - 0)) hc hr (by decide) (n - 1)
    rw [show n - 1 + 1 = n by omega] at h3
    exact ⟨by simp only [lpN]; omega, h3⟩
  | j + 1, h => by
    obtain ⟨h2, h3⟩ := lp_inv h1 hc hr hn j (by omega)
    have e : lpN c r n j + 2 ^ (31 - j) = lpN c r n j + 2 ^ (30 - j) + 2 ^ (30 - j) := by
      rw [show 31 - j = (30 - j) + 1 by omega, Nat.pow_succ]; omega
    rw [show 31 - (j + 1) = 30 - j by omega, lpN]
    by_cases hz : rB c r (lpN c r n j + 2 ^ (30 - j)) n = 0
    · rw [if_pos hz]; exact ⟨h2, hz⟩
    · rw [if_neg hz]; exact ⟨hz, e ▸ h3⟩
theorem lp_is {c r n lo hi : Nat} (h1 : 1 ≤ c) (hc : c ≤ 1000000000) (hr : r ≤ 2000) (hn : 1 ≤ n) (hlo : rB c r lo n ≠ 0) (hhi : rB c r hi n = 0) (h : hi ≤ lo + 1) : hi = lpN c r n 31 + 1 := by
  obtain ⟨q1, q2⟩ := lp_inv h1 hc hr hn 31 (Nat.le_refl _)
  have q3 : rB c r (lpN c r n 31 + 1) n = 0 := q2
  rcases Nat.lt_trichotomy hi (lpN c r n 31 + 1) with h2 | h2 | h2
  · have := rB_anti (c := c) (r := r) (show hi ≤ lpN c r n 31 by omega) n; omega
  · exact h2
  · have := rB_anti (c := c) (r := r) (show lpN c r n 31 + 1 ≤ lo by omega) n; omega
theorem lp_small {c r n : Nat} (h1 : 1 ≤ c) (hc : c ≤ 1000000000) (hr : r ≤ 2000) (hn : 1 ≤ n) : lpN c r n 31 + 1 ≤ 2000000000 := by
  obtain ⟨q1, -⟩ := lp_inv h1 hc hr hn 31 (Nat.le_refl _)
  have h3 := rB_z (c := c) (r := r) (p := 2000000000) hc hr (by decide) (n - 1)
  rw [show n - 1 + 1 = n by omega] at h3
  by_cases h : lpN c r n 31 + 1 ≤ 2000000000
  · exact h
  · have := rB_anti (c := c) (r := r) (show 2000000000 ≤ lpN c r n 31 by omega) n; omega
theorem lg_eq0 {a : Nat} (h : a < 2 ^ 63) : lg_cmp (lN a) (lN 0) = 0 ↔ a = 0 := by rw [lg_eq, pk_lEQ h (by decide)]
theorem lg_le1 {a b : Nat} (h : a < 2 ^ 63) (hb : b < 2 ^ 63) : lg_cmp (lN a) (lN b) ≤ 0 ↔ a ≤ b := by
  rw [← Int32.not_lt, lg_gt, pk_lLT hb h]; omega

set_option maxHeartbeats 4000000 in
set_option maxRecDepth 100000 in
theorem C_Mo_paymentOf (l : Launch) {V : gV} {w : va_W} (k r n : Nat) (hk1 : 1 ≤ k) (hc : k ≤ 1000000000) (hrt : r ≤ 2000) (hn1 : 1 ≤ n) (hn : n ≤ 30) : mPl l y_Mo_paymentOf (w_Mo_paymentOf :: gt) rm_Mo_paymentOf V (w  ) [.int (nI k), .int (nI r), .int (nI n)] (lN (lpN k r n 31 + 1)) := by
  refine gMet (V := V) (As := [.int (nI k), .int (nI r), .int (nI n)]) (cc := c_Mo_paymentOf) (maxL := 10) (ret := (some .long)) (by decide) rfl (Nat.le_of_ble_eq_true rfl) (fun a U h => ⟨h.1, h.2.2⟩) ?_
  intro p e s m below meth c E hr hlk hnm hv
  have hO := gO_r (locs1 := []) (ws := w  ) hv.2.1
  refine g_lconst (v := lN 0) E d_Mo_paymentOf_0 (by decide) ?_
  refine g_lstore_n (lv' := [(3, .long (lN 0)), (0, .int (nI k)), (1, .int (nI r)), (2, .int (nI n))]) E d_Mo_paymentOf_1 rfl (by decide) rfl ?_
  refine g_ldc2 E kk_Mo_157 d_Mo_paymentOf_2 ?_
  refine g_topl (show ((2000000000) : Int64) = lN 2000000000 from by decide) ?_
  refine g_lstore (lv' := [(5, .long (lN 2000000000)), (3, .long (lN 0)), (0, .int (nI k)), (1, .int (nI r)), (2, .int (nI n))]) E d_Mo_paymentOf_5 (by decide) rfl ?_
  refine g_lv [0, 1, 2, 3, 4] rfl ?_
  refine gloop (α := Nat × Nat) (fun a_ => gR s.heap []) (fun a_ => [(5, .long (lN a_.1)), (3, .long (lN a_.2)), (0, .int (nI k)), (1, .int (nI r)), (2, .int (nI n))]) (fun a_ => a_.2 < a_.1 ∧ a_.1 ≤ 2000000000 ∧ rB k r a_.2 n ≠ 0 ∧ rB k r a_.1 n = 0) (fun a_ => a_.1 - a_.2) (2000000000, 0) (⟨by decide, Nat.le_refl _, by have := rB_0 (c := k) (r := r) n; (try dsimp only); omega, by have := rB_z (c := k) (r := r) (p := 2000000000) hc hrt (by decide) (n - 1); rw [show n - 1 + 1 = n by omega] at this; exact this⟩) ?_
  rintro ⟨hi, lo⟩ hI_7 ih_7
  try dsimp only at hI_7 ih_7 ⊢
  refine g_lload E d_Mo_paymentOf_7 0 rfl ?_
  refine g_lload_n E d_Mo_paymentOf_9 rfl 1 rfl ?_
  refine g_lsub E d_Mo_paymentOf_10 ?_
  refine g_topl (lN_sub (by omega)) ?_
  refine g_lconst (v := lN 1) E d_Mo_paymentOf_11 (by decide) ?_
  refine g_lcmp E d_Mo_paymentOf_12 ?_
  refine g_if_le E 76 d_Mo_paymentOf_13 (by decide) (fun h1 => ?_) (fun h1 => ?_)
  · rw [lg_le1 (by omega) (by decide)] at h1
    refine g_lload E d_Mo_paymentOf_76 0 rfl ?_
    exact g_lret E hr hlk d_Mo_paymentOf_78 (gq_l (by rw [lp_is hk1 hc hrt hn1 hI_7.2.2.1 hI_7.2.2.2 (by omega)]))
  · rw [lg_le1 (by omega) (by decide)] at h1
    refine g_lload_n E d_Mo_paymentOf_16 rfl 1 rfl ?_
    refine g_lload E d_Mo_paymentOf_17 0 rfl ?_
    refine g_ladd E d_Mo_paymentOf_19 ?_
    refine g_topl (lN_add _ _) ?_
    refine g_ldc2 E kk_Mo_90 d_Mo_paymentOf_20 ?_
    refine g_topl (show ((2) : Int64) = lN 2 from by decide) ?_
    refine g_ldiv E d_Mo_paymentOf_23 (by decide) ?_
    refine g_topl (pk_lDiv (by omega) (by decide) (by decide)) ?_
    refine g_lstore (lv' := [(7, .long (lN ((lo + hi) / 2))), (5, .long (lN hi)), (3, .long (lN lo)), (0, .int (nI k)), (1, .int (nI r)), (2, .int (nI n))]) E d_Mo_paymentOf_24 (by decide) rfl ?_
    refine g_iload_n E d_Mo_paymentOf_26 rfl 3 rfl ?_
    refine g_i2l E d_Mo_paymentOf_27 ?_
    refine g_topl (nI_l (by omega)) ?_
    refine g_iload_n E d_Mo_paymentOf_28 rfl 4 rfl ?_
    refine g_iload_n E d_Mo_paymentOf_29 rfl 5 rfl ?_
    refine g_lload E d_Mo_paymentOf_30 0 rfl ?_
    refine gpSl (As := [.long (lN k), .int (nI r), .int (nI n), .long (lN ((lo + hi) / 2))]) (rest := []) E hO (C_Mo_restOf l k r n ((lo + hi) / 2) (by omega) (by omega) (by omega) (by omega)) (cs_Mo_159 E rfl rfl ⟨Nat.le_of_ble_eq_true rfl, Nat.le_of_ble_eq_true rfl⟩) rfl rfl (Nat.le_of_ble_eq_true rfl) ⟨Nat.zero_le _, Nat.zero_le _⟩ d_Mo_paymentOf_32 ?_
    refine g_lconst (v := lN 0) E d_Mo_paymentOf_35 (by decide) ?_
    refine g_lcmp E d_Mo_paymentOf_36 ?_
    refine g_if_ne E 44 d_Mo_paymentOf_37 (by decide) (fun h2 => ?_) (fun h2 => ?_)
    · have b3 := rB_le (c := k) (r := r) (p := (lo + hi) / 2) (k := n) hc hrt hn
      rw [lg_eq0 (by omega)] at h2
      refine g_iconst (v := nI 0) E d_Mo_paymentOf_44 (by decide) ?_
      refine g_istore (lv' := [(9, .int (nI 0)), (7, .long (lN ((lo + hi) / 2))), (5, .long (lN hi)), (3, .long (lN lo)), (0, .int (nI k)), (1, .int (nI r)), (2, .int (nI n))]) E d_Mo_paymentOf_45 (by decide) rfl ?_
      refine g_iload E d_Mo_paymentOf_47 0 rfl ?_
      refine g_nif_eq E 57 d_Mo_paymentOf_49 (by decide) (by decide) (fun _ => ?_) (fun h3 => absurd h3 (by decide))
      refine g_lload E d_Mo_paymentOf_57 2 rfl ?_
      refine g_lstore (lv' := [(5, .long (lN hi)), (9, .int (nI 0)), (7, .long (lN ((lo + hi) / 2))), (3, .long (lN lo)), (0, .int (nI k)), (1, .int (nI r)), (2, .int (nI n))]) E d_Mo_paymentOf_59 (by decide) rfl ?_
      refine g_iload E d_Mo_paymentOf_61 1 rfl ?_
      refine g_nif_eq E 70 d_Mo_paymentOf_63 (by decide) (by decide) (fun _ => ?_) (fun h4 => absurd h4 (by decide))
      refine g_lload E d_Mo_paymentOf_70 2 rfl ?_
      refine g_lstore_n (lv' := [(3, .long (lN ((lo + hi) / 2))), (5, .long (lN hi)), (9, .int (nI 0)), (7, .long (lN ((lo + hi) / 2))), (0, .int (nI k)), (1, .int (nI r)), (2, .int (nI n))]) E d_Mo_paymentOf_72 rfl (by decide) rfl ?_
      refine g_goto E 7 d_Mo_paymentOf_73 (by decide) ?_
      refine g_lv [1, 0, 4, 5, 6] rfl ?_
      exact ih_7 (hi, (lo + hi) / 2) (⟨by (try dsimp only); omega, by (try dsimp only); omega, by (try dsimp only); first | exact hI_7.2.2.1 | exact h2, by (try dsimp only); first | exact hI_7.2.2.2 | exact h2⟩) (by (try dsimp only); omega)
    · have b3 := rB_le (c := k) (r := r) (p := (lo + hi) / 2) (k := n) hc hrt hn
      rw [lg_eq0 (by omega)] at h2
      refine g_iconst (v := nI 1) E d_Mo_paymentOf_40 (by decide) ?_
      refine g_goto E 45 d_Mo_paymentOf_41 (by decide) ?_
      refine g_istore (lv' := [(9, .int (nI 1)), (7, .long (lN ((lo + hi) / 2))), (5, .long (lN hi)), (3, .long (lN lo)), (0, .int (nI k)), (1, .int (nI r)), (2, .int (nI n))]) E d_Mo_paymentOf_45 (by decide) rfl ?_
      refine g_iload E d_Mo_paymentOf_47 0 rfl ?_
      refine g_nif_eq E 57 d_Mo_paymentOf_49 (by decide) (by decide) (fun h5 => absurd h5 (by decide)) (fun _ => ?_)
      refine g_lload E d_Mo_paymentOf_52 1 rfl ?_
      refine g_goto E 59 d_Mo_paymentOf_54 (by decide) ?_
      refine g_lstore (lv' := [(5, .long (lN ((lo + hi) / 2))), (9, .int (nI 1)), (7, .long (lN ((lo + hi) / 2))), (3, .long (lN lo)), (0, .int (nI k)), (1, .int (nI r)), (2, .int (nI n))]) E d_Mo_paymentOf_59 (by decide) rfl ?_
      refine g_iload E d_Mo_paymentOf_61 1 rfl ?_
      refine g_nif_eq E 70 d_Mo_paymentOf_63 (by decide) (by decide) (fun h6 => absurd h6 (by decide)) (fun _ => ?_)
      refine g_lload_n E d_Mo_paymentOf_66 rfl 3 rfl ?_
      refine g_goto E 72 d_Mo_paymentOf_67 (by decide) ?_
      refine g_lstore_n (lv' := [(3, .long (lN lo)), (5, .long (lN ((lo + hi) / 2))), (9, .int (nI 1)), (7, .long (lN ((lo + hi) / 2))), (0, .int (nI k)), (1, .int (nI r)), (2, .int (nI n))]) E d_Mo_paymentOf_72 rfl (by decide) rfl ?_
      refine g_goto E 7 d_Mo_paymentOf_73 (by decide) ?_
      refine g_lv [1, 0, 4, 5, 6] rfl ?_
      exact ih_7 ((lo + hi) / 2, lo) (⟨by (try dsimp only); omega, by (try dsimp only); omega, by (try dsimp only); first | exact hI_7.2.2.1 | exact h2, by (try dsimp only); first | exact hI_7.2.2.2 | exact h2⟩) (by (try dsimp only); omega)
