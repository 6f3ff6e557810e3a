/-! The model's shares. -/
def mvJ (go : Nat → Nat) (p : Nat) (S : Nat → Nat) (t : Nat) : Nat := S t * (16 - lvN go p t) + sumN (fun a => S a * go (16 * p + 4 * a + t)) 4
def nxt (go : Nat → Nat) (p : Nat) (S N : Nat → Nat) : Nat → Nat := fun j => if j < 4 then mvJ go p S j else N j
def lrS (go : Nat → Nat) (p : Nat) (sh nx : Nat → Nat) : Nat → (Nat → Nat) × (Nat → Nat)
  | 0 => (sh, nx)
  | k + 1 => (fun j => if j < 4 then nxt go p (lrS go p sh nx k).1 (lrS go p sh nx k).2 j else (lrS go p sh nx k).1 j, nxt go p (lrS go p sh nx k).1 (lrS go p sh nx k).2)
def bg4 (r : Nat) (sh : Nat → Nat) : Nat → Nat := fun j => if j < 4 then (if j = r then 1 else 0) else sh j
/-- shares and the other row behind learn -/
def lrn (go sr : Nat → Nat) (po : Nat → Option Nat) (yo : Nat → Nat) (mk nw i y : Nat) (u : (Nat → Nat) × (Nat → Nat)) : (Nat → Nat) × (Nat → Nat) := lrS go i (bg4 (sr i) u.1) u.2 (y - bgN po yo mk i y nw)

set_option maxHeartbeats 4000000 in
set_option maxRecDepth 100000 in
theorem C_Mo_learn (l : Launch) {V : gV} {am : Nat → Nat} {th nY : Nat} {ix bu : Nat → Nat} {np : Nat} {st sr go ca : Nat → Nat} {nw : Nat} {yo ce wo : Nat → Nat} {po ne : Nat → Option Nat} {sv : Nat → Nat} {cl : Nat → Bool} {mk bg dp : Nat} {sh nx : Nat → Nat} {spn : Int} (i y : Nat) (hi : i < 12) (hy : y < 12) (hr : sr i < 4) (hnw : nw ≤ 10) (hmk : mk < 1024) (hyo : ∀ w, yo w < 12) (hpo : ∀ w q, po w = some q → q < 12) (hlv : ∀ p a, lvN go p a ≤ 16) (hgo : ∀ j, go j ≤ 16) : mWl l y_Mo_learn (w_Mo_learn :: gt) rm_Mo_learn V (wM V am th nY ix bu np st sr go ca nw yo ce wo po ne sv cl mk bg dp sh nx spn) [.ref (am 0), .int (nI i), .int (nI y)] (lN (16 ^ (y - bgN po yo mk i y nw))) (wM V am th nY ix bu np st sr go ca nw yo ce wo po ne sv cl mk bg dp ((lrn go sr po yo mk nw i y (sh, nx)).1) ((lrn go sr po yo mk nw i y (sh, nx)).2) spn) 0 0 := by
  intro sz
  refine gMet (V := V) (As := [.ref (am 0), .int (nI i), .int (nI y)]) (cc := c_Mo_learn) (maxL := 8) (ret := (some .long)) (by decide) rfl (Nat.le_of_ble_eq_true rfl) (fun a U h => ⟨h.1, h.2.2.2.1⟩) ?_
  intro p e s m below meth c E hr hlk hnm hv
  refine g_toW (sz := sz) (w := wM V am th nY ix bu np st sr go ca nw yo ce wo po ne sv cl mk bg dp sh nx spn) hv.2.2.1 hv.2.2.2.2 ?_
  have hA0 : ∀ q : Nat, s.heap.size ≤ q → va_A (wM V am th nY ix bu np st sr go ca nw yo ce wo po ne sv cl mk bg dp sh nx spn) sz q := fun q h => Or.inr (by rw [← hv.2.1]; exact h)
  refine g_iconst (v := nI 0) E d_Mo_learn_0 (by decide) ?_
  refine g_istore_n (lv' := [(3, .int (nI 0)), (0, .ref (am 0)), (1, .int (nI i)), (2, .int (nI y))]) E d_Mo_learn_1 rfl (by decide) rfl ?_
  refine g_lv [0, 1, 2, 3] rfl ?_
  refine g_ws (ws' := wM V am th nY ix bu np st sr go ca nw yo ce wo po ne sv cl mk bg dp (fun j => if j < 0 then (if j = sr i then 1 else 0) else sh j) nx spn) (by simp only [Nat.not_lt_zero, if_false]) ?_
  refine gloop (α := Nat) (fun a_ => gW V _ _ (wM V am th nY ix bu np st sr go ca nw yo ce wo po ne sv cl mk bg dp (fun j => if j < a_ then (if j = sr i then 1 else 0) else sh j) nx spn)) (fun a_ => [(3, .int (nI a_)), (0, .ref (am 0)), (1, .int (nI i)), (2, .int (nI y))]) (fun a_ => a_ ≤ 4) (fun a_ => 4 - a_) (0) (Nat.zero_le _) ?_
  rintro t hI_2 ih_2
  try dsimp only at hI_2 ih_2 ⊢
  refine g_iload_n E d_Mo_learn_2 rfl 0 rfl ?_
  refine g_iconst (v := nI 4) E d_Mo_learn_3 (by decide) ?_
  refine g_ncmp_ge E 34 d_Mo_learn_4 (by decide) (by omega) (by omega) (fun h1 => ?_) (fun h1 => ?_)
  · refine g_lconst (v := lN 1) E d_Mo_learn_34 (by decide) ?_
    refine g_lstore_n (lv' := [(3, .long (lN 1)), (0, .ref (am 0)), (1, .int (nI i)), (2, .int (nI y))]) E d_Mo_learn_35 rfl (by decide) rfl ?_
    refine g_aload_n E d_Mo_learn_36 rfl 1 rfl ?_
    refine g_iload_n E d_Mo_learn_37 rfl 2 rfl ?_
    refine g_iload_n E d_Mo_learn_38 rfl 3 rfl ?_
    refine gpVi (As := [.int (nI i), .int (nI y)]) (rest := []) E gO_w 0 rfl rfl (C_Mo_begins l i y (by omega) (by omega) (by omega) (by omega) hyo hpo) (cs_Mo_109 E rfl rfl ⟨Nat.le_of_ble_eq_true rfl, Nat.le_of_ble_eq_true rfl⟩) rfl rfl (Nat.le_of_ble_eq_true rfl) ⟨Nat.zero_le _, Nat.zero_le _⟩ d_Mo_learn_39 ?_
    refine g_istore (lv' := [(5, .int (nI (bgN po yo mk i y nw))), (3, .long (lN 1)), (0, .ref (am 0)), (1, .int (nI i)), (2, .int (nI y))]) E d_Mo_learn_42 (by decide) rfl ?_
    refine g_lv [0, 1, 2, 3, 4] rfl ?_
    refine g_ws (ws' := wM V am th nY ix bu np st sr go ca nw yo ce wo po ne sv cl mk bg dp ((lrS go i (bg4 (sr i) sh) nx 0).1) ((lrS go i (bg4 (sr i) sh) nx 0).2) spn) (by rw [show t = 4 by omega]; rfl) ?_
    refine gloop (α := Nat) (fun a_ => gW V _ _ (wM V am th nY ix bu np st sr go ca nw yo ce wo po ne sv cl mk bg dp ((lrS go i (bg4 (sr i) sh) nx a_).1) ((lrS go i (bg4 (sr i) sh) nx a_).2) spn)) (fun a_ => [(5, .int (nI (bgN po yo mk i y nw + a_))), (3, .long (lN (16 ^ a_))), (0, .ref (am 0)), (1, .int (nI i)), (2, .int (nI y))]) (fun a_ => bgN po yo mk i y nw + a_ ≤ y) (fun a_ => y - a_) (0) (bgN_le nw) ?_
    rintro k hI_44 ih_44
    try dsimp only at hI_44 ih_44 ⊢
    refine g_iload E d_Mo_learn_44 0 rfl ?_
    refine g_iload_n E d_Mo_learn_46 rfl 4 rfl ?_
    refine g_ncmp_ge E 183 d_Mo_learn_47 (by decide) (by omega) (by omega) (fun h2 => ?_) (fun h2 => ?_)
    · refine g_lload_n E d_Mo_learn_183 rfl 1 rfl ?_
      refine g_ws (ws' := wM V am th nY ix bu np st sr go ca nw yo ce wo po ne sv cl mk bg dp ((lrn go sr po yo mk nw i y (sh, nx)).1) ((lrn go sr po yo mk nw i y (sh, nx)).2) spn) (by rw [show k = y - bgN po yo mk i y nw by omega]; rfl) ?_
      exact g_lret E hr hlk d_Mo_learn_184 (gq_wl (w1 := fun _ => wM V am th nY ix bu np st sr go ca nw yo ce wo po ne sv cl mk bg dp ((lrn go sr po yo mk nw i y (sh, nx)).1) ((lrn go sr po yo mk nw i y (sh, nx)).2) spn) () (by rw [show k = y - bgN po yo mk i y nw by omega]))
    · refine g_iconst (v := nI 0) E d_Mo_learn_50 (by decide) ?_
      refine g_istore (lv' := [(6, .int (nI 0)), (5, .int (nI (bgN po yo mk i y nw + k))), (3, .long (lN (16 ^ k))), (0, .ref (am 0)), (1, .int (nI i)), (2, .int (nI y))]) E d_Mo_learn_51 (by decide) rfl ?_
      refine g_lv [0, 1, 2, 3, 4, 5] rfl ?_
      refine g_ws (ws' := wM V am th nY ix bu np st sr go ca nw yo ce wo po ne sv cl mk bg dp ((lrS go i (bg4 (sr i) sh) nx k).1) (fun j => if j < 0 then mvJ go i (lrS go i (bg4 (sr i) sh) nx k).1 j else (lrS go i (bg4 (sr i) sh) nx k).2 j) spn) (by simp only [Nat.not_lt_zero, if_false]) ?_
      refine gloop (α := Nat) (fun a_ => gW V _ _ (wM V am th nY ix bu np st sr go ca nw yo ce wo po ne sv cl mk bg dp ((lrS go i (bg4 (sr i) sh) nx k).1) (fun j => if j < a_ then mvJ go i (lrS go i (bg4 (sr i) sh) nx k).1 j else (lrS go i (bg4 (sr i) sh) nx k).2 j) spn)) (fun a_ => [(6, .int (nI a_)), (5, .int (nI (bgN po yo mk i y nw + k))), (3, .long (lN (16 ^ k))), (0, .ref (am 0)), (1, .int (nI i)), (2, .int (nI y))]) (fun a_ => a_ ≤ 4) (fun a_ => 4 - a_) (0) (Nat.zero_le _) ?_
      rintro t hI_53 ih_53
      try dsimp only at hI_53 ih_53 ⊢
      refine g_iload E d_Mo_learn_53 0 rfl ?_
      refine g_iconst (v := nI 4) E d_Mo_learn_55 (by decide) ?_
      refine g_ncmp_ge E 142 d_Mo_learn_56 (by decide) (by omega) (by omega) (fun h3 => ?_) (fun h3 => ?_)
      · refine g_iconst (v := nI 0) E d_Mo_learn_142 (by decide) ?_
        refine g_istore (lv' := [(6, .int (nI 0)), (5, .int (nI (bgN po yo mk i y nw + k))), (3, .long (lN (16 ^ k))), (0, .ref (am 0)), (1, .int (nI i)), (2, .int (nI y))]) E d_Mo_learn_143 (by decide) rfl ?_
        refine g_lv [0, 1, 2, 3, 4, 5] rfl ?_
        refine g_ws (ws' := wM V am th nY ix bu np st sr go ca nw yo ce wo po ne sv cl mk bg dp (fun j => if j < 0 then nxt go i (lrS go i (bg4 (sr i) sh) nx k).1 (lrS go i (bg4 (sr i) sh) nx k).2 j else (lrS go i (bg4 (sr i) sh) nx k).1 j) (nxt go i (lrS go i (bg4 (sr i) sh) nx k).1 (lrS go i (bg4 (sr i) sh) nx k).2) spn) (by rw [show t = 4 by omega]; simp only [Nat.not_lt_zero, if_false]; rfl) ?_
        refine gloop (α := Nat) (fun a_ => gW V _ _ (wM V am th nY ix bu np st sr go ca nw yo ce wo po ne sv cl mk bg dp (fun j => if j < a_ then nxt go i (lrS go i (bg4 (sr i) sh) nx k).1 (lrS go i (bg4 (sr i) sh) nx k).2 j else (lrS go i (bg4 (sr i) sh) nx k).1 j) (nxt go i (lrS go i (bg4 (sr i) sh) nx k).1 (lrS go i (bg4 (sr i) sh) nx k).2) spn)) (fun a_ => [(6, .int (nI a_)), (5, .int (nI (bgN po yo mk i y nw + k))), (3, .long (lN (16 ^ k))), (0, .ref (am 0)), (1, .int (nI i)), (2, .int (nI y))]) (fun a_ => a_ ≤ 4) (fun a_ => 4 - a_) (0) (Nat.zero_le _) ?_
        rintro t hI_145 ih_145
        try dsimp only at hI_145 ih_145 ⊢
        refine g_iload E d_Mo_learn_145 0 rfl ?_
        refine g_iconst (v := nI 4) E d_Mo_learn_147 (by decide) ?_
        refine g_ncmp_ge E 171 d_Mo_learn_148 (by decide) (by omega) (by omega) (fun h4 => ?_) (fun h4 => ?_)
        · refine g_ldc2 E kk_Mo_98 d_Mo_learn_171 ?_
          refine g_topl (show ((16) : Int64) = lN 16 from by decide) ?_
          refine g_lload_n E d_Mo_learn_174 rfl 2 rfl ?_
          refine g_lmul E d_Mo_learn_175 ?_
          refine g_topl (by rw [lN_mul, Nat.mul_comm, ← Nat.pow_succ]) ?_
          refine g_lstore_n (lv' := [(3, .long (lN (16 ^ (k + 1)))), (6, .int (nI t)), (5, .int (nI (bgN po yo mk i y nw + k))), (0, .ref (am 0)), (1, .int (nI i)), (2, .int (nI y))]) E d_Mo_learn_176 rfl (by decide) rfl ?_
          refine g_iinc (lv' := [(5, .int (nI ((bgN po yo mk i y nw + k) + 1))), (3, .long (lN (16 ^ (k + 1)))), (6, .int (nI t)), (0, .ref (am 0)), (1, .int (nI i)), (2, .int (nI y))]) E d_Mo_learn_177 2 rfl (nI_inc _) (by decide) rfl ?_
          refine g_goto E 44 d_Mo_learn_180 (by decide) ?_
          refine g_lv [0, 1, 3, 4, 5] rfl ?_
          refine g_ws (ws' := wM V am th nY ix bu np st sr go ca nw yo ce wo po ne sv cl mk bg dp ((lrS go i (bg4 (sr i) sh) nx (k + 1)).1) ((lrS go i (bg4 (sr i) sh) nx (k + 1)).2) spn) (by rw [show t = 4 by omega]; rfl) ?_
          exact ih_44 (k + 1) (by (try dsimp only); omega) (by (try dsimp only); omega)
        · refine g_aload_n E d_Mo_learn_151 rfl 3 rfl ?_
          refine gf_Mo_50 E gO_w 0 rfl rfl d_Mo_learn_152 ?_
          refine g_iload E d_Mo_learn_155 0 rfl ?_
          refine g_aload_n E d_Mo_learn_157 rfl 3 rfl ?_
          refine gf_Mo_54 E gO_w 0 rfl rfl d_Mo_learn_158 ?_
          refine g_iload E d_Mo_learn_161 0 rfl ?_
          refine g_ldL E gO_w 15 rfl (by omega) (by decide) d_Mo_learn_163 ?_
          refine g_stL (ws' := wM V am th nY ix bu np st sr go ca nw yo ce wo po ne sv cl mk bg dp (va_up (fun j => if j < t then nxt go i (lrS go i (bg4 (sr i) sh) nx k).1 (lrS go i (bg4 (sr i) sh) nx k).2 j else (lrS go i (bg4 (sr i) sh) nx k).1 j) t ((nxt go i (lrS go i (bg4 (sr i) sh) nx k).1 (lrS go i (bg4 (sr i) sh) nx k).2) t)) (nxt go i (lrS go i (bg4 (sr i) sh) nx k).1 (lrS go i (bg4 (sr i) sh) nx k).2) spn) E 14 rfl (by omega) (by decide) rfl d_Mo_learn_164 ?_
          refine g_iinc (lv' := [(6, .int (nI (t + 1))), (5, .int (nI (bgN po yo mk i y nw + k))), (3, .long (lN (16 ^ k))), (0, .ref (am 0)), (1, .int (nI i)), (2, .int (nI y))]) E d_Mo_learn_165 0 rfl (nI_inc _) (by decide) rfl ?_
          refine g_goto E 145 d_Mo_learn_168 (by decide) ?_
          refine g_lv [0, 1, 2, 3, 4, 5] rfl ?_
          refine g_ws (ws' := wM V am th nY ix bu np st sr go ca nw yo ce wo po ne sv cl mk bg dp (fun j => if j < t + 1 then nxt go i (lrS go i (bg4 (sr i) sh) nx k).1 (lrS go i (bg4 (sr i) sh) nx k).2 j else (lrS go i (bg4 (sr i) sh) nx k).1 j) (nxt go i (lrS go i (bg4 (sr i) sh) nx k).1 (lrS go i (bg4 (sr i) sh) nx k).2) spn) (congrArg (fun f => wM V am th nY ix bu np st sr go ca nw yo ce wo po ne sv cl mk bg dp f (nxt go i (lrS go i (bg4 (sr i) sh) nx k).1 (lrS go i (bg4 (sr i) sh) nx k).2) spn) (ifu (F := nxt go i (lrS go i (bg4 (sr i) sh) nx k).1 (lrS go i (bg4 (sr i) sh) nx k).2) (G := (lrS go i (bg4 (sr i) sh) nx k).1))) ?_
          exact ih_145 (t + 1) (by (try dsimp only); omega) (by (try dsimp only); omega)
      · refine g_aload_n E d_Mo_learn_59 rfl 3 rfl ?_
        refine gf_Mo_54 E gO_w 0 rfl rfl d_Mo_learn_60 ?_
        refine g_iload E d_Mo_learn_63 0 rfl ?_
        refine g_aload_n E d_Mo_learn_65 rfl 3 rfl ?_
        refine gf_Mo_50 E gO_w 0 rfl rfl d_Mo_learn_66 ?_
        refine g_iload E d_Mo_learn_69 0 rfl ?_
        refine g_ldL E gO_w 14 rfl (by omega) (by decide) d_Mo_learn_71 ?_
        refine g_bipush (v := nI 16) E d_Mo_learn_72 (by decide) ?_
        refine g_aload_n E d_Mo_learn_74 rfl 3 rfl ?_
        refine g_iload_n E d_Mo_learn_75 rfl 4 rfl ?_
        refine g_iload E d_Mo_learn_76 0 rfl ?_
        refine gpVi (As := [.int (nI i), .int (nI t)]) (rest := [.int (nI 16), .long (lN (((lrS go i (bg4 (sr i) sh) nx k).1) t)), .int (nI t), .ref (am 15)]) E gO_w 0 rfl rfl (C_Mo_leaving l i t (by omega) (by omega)) (cs_Mo_100 E rfl rfl ⟨Nat.le_of_ble_eq_true rfl, Nat.le_of_ble_eq_true rfl⟩) rfl rfl (Nat.le_of_ble_eq_true rfl) ⟨Nat.zero_le _, Nat.zero_le _⟩ d_Mo_learn_78 ?_
        refine g_isub E d_Mo_learn_81 ?_
        refine g_topi (pk_sub (hlv i t)) ?_
        refine g_i2l E d_Mo_learn_82 ?_
        refine g_topl (nI_l (by omega)) ?_
        refine g_lmul E d_Mo_learn_83 ?_
        refine g_topl (lN_mul _ _) ?_
        refine g_stL (ws' := wM V am th nY ix bu np st sr go ca nw yo ce wo po ne sv cl mk bg dp ((lrS go i (bg4 (sr i) sh) nx k).1) (va_up (fun j => if j < t then mvJ go i (lrS go i (bg4 (sr i) sh) nx k).1 j else (lrS go i (bg4 (sr i) sh) nx k).2 j) t ((((lrS go i (bg4 (sr i) sh) nx k).1) t) * (16 - lvN go i t))) spn) E 15 rfl (by omega) (by decide) rfl d_Mo_learn_84 ?_
        refine g_iconst (v := nI 0) E d_Mo_learn_85 (by decide) ?_
        refine g_istore (lv' := [(7, .int (nI 0)), (6, .int (nI t)), (5, .int (nI (bgN po yo mk i y nw + k))), (3, .long (lN (16 ^ k))), (0, .ref (am 0)), (1, .int (nI i)), (2, .int (nI y))]) E d_Mo_learn_86 (by decide) rfl ?_
        refine g_lv [0, 1, 2, 3, 4, 5, 6] rfl ?_
        refine g_ws (ws' := wM V am th nY ix bu np st sr go ca nw yo ce wo po ne sv cl mk bg dp ((lrS go i (bg4 (sr i) sh) nx k).1) (va_up (fun j => if j < t then mvJ go i (lrS go i (bg4 (sr i) sh) nx k).1 j else (lrS go i (bg4 (sr i) sh) nx k).2 j) t ((lrS go i (bg4 (sr i) sh) nx k).1 t * (16 - lvN go i t) + sumN (fun a => (lrS go i (bg4 (sr i) sh) nx k).1 a * go (16 * i + 4 * a + t)) 0)) spn) rfl ?_
        refine gloop (α := Nat) (fun a_ => gW V _ _ (wM V am th nY ix bu np st sr go ca nw yo ce wo po ne sv cl mk bg dp ((lrS go i (bg4 (sr i) sh) nx k).1) (va_up (fun j => if j < t then mvJ go i (lrS go i (bg4 (sr i) sh) nx k).1 j else (lrS go i (bg4 (sr i) sh) nx k).2 j) t ((lrS go i (bg4 (sr i) sh) nx k).1 t * (16 - lvN go i t) + sumN (fun a => (lrS go i (bg4 (sr i) sh) nx k).1 a * go (16 * i + 4 * a + t)) a_)) spn)) (fun a_ => [(7, .int (nI a_)), (6, .int (nI t)), (5, .int (nI (bgN po yo mk i y nw + k))), (3, .long (lN (16 ^ k))), (0, .ref (am 0)), (1, .int (nI i)), (2, .int (nI y))]) (fun a_ => a_ ≤ 4) (fun a_ => 4 - a_) (0) (Nat.zero_le _) ?_
        rintro q hI_88 ih_88
        try dsimp only at hI_88 ih_88 ⊢
        refine g_iload E d_Mo_learn_88 0 rfl ?_
        refine g_iconst (v := nI 4) E d_Mo_learn_90 (by decide) ?_
        refine g_ncmp_ge E 136 d_Mo_learn_91 (by decide) (by omega) (by omega) (fun h5 => ?_) (fun h5 => ?_)
        · refine g_iinc (lv' := [(6, .int (nI (t + 1))), (7, .int (nI q)), (5, .int (nI (bgN po yo mk i y nw + k))), (3, .long (lN (16 ^ k))), (0, .ref (am 0)), (1, .int (nI i)), (2, .int (nI y))]) E d_Mo_learn_136 1 rfl (nI_inc _) (by decide) rfl ?_
          refine g_goto E 53 d_Mo_learn_139 (by decide) ?_
          refine g_lv [0, 2, 3, 4, 5, 6] rfl ?_
          refine g_ws (ws' := wM V am th nY ix bu np st sr go ca nw yo ce wo po ne sv cl mk bg dp ((lrS go i (bg4 (sr i) sh) nx k).1) (fun j => if j < t + 1 then mvJ go i (lrS go i (bg4 (sr i) sh) nx k).1 j else (lrS go i (bg4 (sr i) sh) nx k).2 j) spn) (congrArg (fun f => wM V am th nY ix bu np st sr go ca nw yo ce wo po ne sv cl mk bg dp ((lrS go i (bg4 (sr i) sh) nx k).1) f spn) (by rw [show q = 4 by omega]; exact ifu (F := mvJ go i (lrS go i (bg4 (sr i) sh) nx k).1) (G := (lrS go i (bg4 (sr i) sh) nx k).2))) ?_
          exact ih_53 (t + 1) (by (try dsimp only); omega) (by (try dsimp only); omega)
        · refine g_aload_n E d_Mo_learn_94 rfl 4 rfl ?_
          refine gf_Mo_54 E gO_w 0 rfl rfl d_Mo_learn_95 ?_
          refine g_iload E d_Mo_learn_98 1 rfl ?_
          refine g_dup2 E d_Mo_learn_100 rfl rfl ?_
          refine g_ldL E gO_w 15 rfl (by omega) (by decide) d_Mo_learn_101 ?_
          refine g_topl (show lN _ = lN ((lrS go i (bg4 (sr i) sh) nx k).1 t * (16 - lvN go i t) + sumN (fun a => (lrS go i (bg4 (sr i) sh) nx k).1 a * go (16 * i + 4 * a + t)) q) from by rw [va_up_self]) ?_
          refine g_aload_n E d_Mo_learn_102 rfl 4 rfl ?_
          refine gf_Mo_50 E gO_w 0 rfl rfl d_Mo_learn_103 ?_
          refine g_iload E d_Mo_learn_106 0 rfl ?_
          refine g_ldL E gO_w 14 rfl (by omega) (by decide) d_Mo_learn_108 ?_
          refine g_aload_n E d_Mo_learn_109 rfl 4 rfl ?_
          refine gf_Mo_22 E gO_w 0 rfl rfl d_Mo_learn_110 ?_
          refine g_bipush (v := nI 16) E d_Mo_learn_113 (by decide) ?_
          refine g_iload_n E d_Mo_learn_115 rfl 5 rfl ?_
          refine g_imul E d_Mo_learn_116 ?_
          refine g_topi (pk_mul _ _) ?_
          refine g_iconst (v := nI 4) E d_Mo_learn_117 (by decide) ?_
          refine g_iload E d_Mo_learn_118 0 rfl ?_
          refine g_imul E d_Mo_learn_120 ?_
          refine g_topi (pk_mul _ _) ?_
          refine g_iadd E d_Mo_learn_121 ?_
          refine g_topi (nI_add _ _) ?_
          refine g_iload E d_Mo_learn_122 1 rfl ?_
          refine g_iadd E d_Mo_learn_124 ?_
          refine g_topi (nI_add _ _) ?_
          refine g_ldN E gO_w 5 rfl (by omega) (by decide) d_Mo_learn_125 ?_
          refine g_i2l E d_Mo_learn_126 ?_
          refine g_topl (nI_l (Nat.lt_of_le_of_lt (hgo _) (by decide))) ?_
          refine g_lmul E d_Mo_learn_127 ?_
          refine g_topl (lN_mul _ _) ?_
          refine g_ladd E d_Mo_learn_128 ?_
          refine g_topl (lN_add _ _) ?_
          refine g_stL (ws' := wM V am th nY ix bu np st sr go ca nw yo ce wo po ne sv cl mk bg dp ((lrS go i (bg4 (sr i) sh) nx k).1) (va_up (va_up (fun j => if j < t then mvJ go i (lrS go i (bg4 (sr i) sh) nx k).1 j else (lrS go i (bg4 (sr i) sh) nx k).2 j) t ((lrS go i (bg4 (sr i) sh) nx k).1 t * (16 - lvN go i t) + sumN (fun a => (lrS go i (bg4 (sr i) sh) nx k).1 a * go (16 * i + 4 * a + t)) q)) t (((lrS go i (bg4 (sr i) sh) nx k).1 t * (16 - lvN go i t) + sumN (fun a => (lrS go i (bg4 (sr i) sh) nx k).1 a * go (16 * i + 4 * a + t)) q) + ((((lrS go i (bg4 (sr i) sh) nx k).1) q) * (go (((16 * i) + (4 * q)) + t))))) spn) E 15 rfl (by omega) (by decide) rfl d_Mo_learn_129 ?_
          refine g_iinc (lv' := [(7, .int (nI (q + 1))), (6, .int (nI t)), (5, .int (nI (bgN po yo mk i y nw + k))), (3, .long (lN (16 ^ k))), (0, .ref (am 0)), (1, .int (nI i)), (2, .int (nI y))]) E d_Mo_learn_130 0 rfl (nI_inc _) (by decide) rfl ?_
          refine g_goto E 88 d_Mo_learn_133 (by decide) ?_
          refine g_lv [0, 1, 2, 3, 4, 5, 6] rfl ?_
          refine g_ws (ws' := wM V am th nY ix bu np st sr go ca nw yo ce wo po ne sv cl mk bg dp ((lrS go i (bg4 (sr i) sh) nx k).1) (va_up (fun j => if j < t then mvJ go i (lrS go i (bg4 (sr i) sh) nx k).1 j else (lrS go i (bg4 (sr i) sh) nx k).2 j) t ((lrS go i (bg4 (sr i) sh) nx k).1 t * (16 - lvN go i t) + sumN (fun a => (lrS go i (bg4 (sr i) sh) nx k).1 a * go (16 * i + 4 * a + t)) (q + 1))) spn) (congrArg (fun f => wM V am th nY ix bu np st sr go ca nw yo ce wo po ne sv cl mk bg dp ((lrS go i (bg4 (sr i) sh) nx k).1) f spn) (by rw [bx_uu]; exact congrArg (va_up _ t) (Nat.add_assoc _ _ _))) ?_
          exact ih_88 (q + 1) (by (try dsimp only); omega) (by (try dsimp only); omega)
  · refine g_aload_n E d_Mo_learn_7 rfl 1 rfl ?_
    refine gf_Mo_50 E gO_w 0 rfl rfl d_Mo_learn_8 ?_
    refine g_iload_n E d_Mo_learn_11 rfl 0 rfl ?_
    refine g_iload_n E d_Mo_learn_12 rfl 0 rfl ?_
    refine g_aload_n E d_Mo_learn_13 rfl 1 rfl ?_
    refine gf_Mo_19 E gO_w 0 rfl rfl d_Mo_learn_14 ?_
    refine g_iload_n E d_Mo_learn_17 rfl 2 rfl ?_
    refine g_ldN E gO_w 4 rfl (by omega) (by decide) d_Mo_learn_18 ?_
    refine g_ncmp_ne E 26 d_Mo_learn_19 (by decide) (by omega) (by omega) (fun h6 => ?_) (fun h6 => ?_)
    · refine g_lconst (v := lN 0) E d_Mo_learn_26 (by decide) ?_
      refine g_stL (ws' := wM V am th nY ix bu np st sr go ca nw yo ce wo po ne sv cl mk bg dp (va_up (fun j => if j < t then (if j = sr i then 1 else 0) else sh j) t 0) nx spn) E 14 rfl (by omega) (by decide) rfl d_Mo_learn_27 ?_
      refine g_iinc (lv' := [(3, .int (nI (t + 1))), (0, .ref (am 0)), (1, .int (nI i)), (2, .int (nI y))]) E d_Mo_learn_28 0 rfl (nI_inc _) (by decide) rfl ?_
      refine g_goto E 2 d_Mo_learn_31 (by decide) ?_
      refine g_lv [0, 1, 2, 3] rfl ?_
      refine g_ws (ws' := wM V am th nY ix bu np st sr go ca nw yo ce wo po ne sv cl mk bg dp (fun j => if j < t + 1 then (if j = sr i then 1 else 0) else sh j) nx spn) (congrArg (fun f => wM V am th nY ix bu np st sr go ca nw yo ce wo po ne sv cl mk bg dp f nx spn) (show va_up (fun j => if j < t then (if j = sr i then 1 else 0) else sh j) t 0 = fun j => if j < t + 1 then (if j = sr i then 1 else 0) else sh j from by rw [← ifu (F := fun j => if j = sr i then 1 else 0) (G := sh)]; simp [h6])) ?_
      exact ih_2 (t + 1) (by (try dsimp only); omega) (by (try dsimp only); omega)
    · refine g_lconst (v := lN 1) E d_Mo_learn_22 (by decide) ?_
      refine g_goto E 27 d_Mo_learn_23 (by decide) ?_
      refine g_stL (ws' := wM V am th nY ix bu np st sr go ca nw yo ce wo po ne sv cl mk bg dp (va_up (fun j => if j < t then (if j = sr i then 1 else 0) else sh j) t 1) nx spn) E 14 rfl (by omega) (by decide) rfl d_Mo_learn_27 ?_
      refine g_iinc (lv' := [(3, .int (nI (t + 1))), (0, .ref (am 0)), (1, .int (nI i)), (2, .int (nI y))]) E d_Mo_learn_28 0 rfl (nI_inc _) (by decide) rfl ?_
      refine g_goto E 2 d_Mo_learn_31 (by decide) ?_
      refine g_lv [0, 1, 2, 3] rfl ?_
      refine g_ws (ws' := wM V am th nY ix bu np st sr go ca nw yo ce wo po ne sv cl mk bg dp (fun j => if j < t + 1 then (if j = sr i then 1 else 0) else sh j) nx spn) (congrArg (fun f => wM V am th nY ix bu np st sr go ca nw yo ce wo po ne sv cl mk bg dp f nx spn) (show va_up (fun j => if j < t then (if j = sr i then 1 else 0) else sh j) t 1 = fun j => if j < t + 1 then (if j = sr i then 1 else 0) else sh j from by rw [← ifu (F := fun j => if j = sr i then 1 else 0) (G := sh)]; simp [h6])) ?_
      exact ih_2 (t + 1) (by (try dsimp only); omega) (by (try dsimp only); omega)

/-- what part i's care takes in year y, by the model: before it is divided; and what it costs -/
def tM (go ca sr : Nat → Nat) (po : Nat → Option Nat) (yo : Nat → Nat) (mk nw i y : Nat) (u : (Nat → Nat) × (Nat → Nat)) : Nat := sumN (fun a => (lrn go sr po yo mk nw i y u).1 a * ca (4 * i + a)) 4
def cM (ix go ca sr : Nat → Nat) (po : Nat → Option Nat) (yo : Nat → Nat) (mk nw i y : Nat) (u : (Nat → Nat) × (Nat → Nat)) : Nat := tM go ca sr po yo mk nw i y u / 16 ^ (y - bgN po yo mk i y nw) * ix y / 1000

set_option maxHeartbeats 4000000 in
set_option maxRecDepth 100000 in
theorem C_Mo_careOf (l : Launch) {V : gV} {am : Nat → Nat} {th nY : Nat} {ix bu : Nat → Nat} {np : Nat} {st sr go ca : Nat → Nat} {nw : Nat} {yo ce wo : Nat → Nat} {po ne : Nat → Option Nat} {sv : Nat → Nat} {cl : Nat → Bool} {mk bg dp : Nat} {sh nx : Nat → Nat} {spn : Int} (i y : Nat) (hi : i < 12) (hy : y < 12) (hr : sr i < 4) (hnw : nw ≤ 10) (hmk : mk < 1024) (hyo : ∀ w, yo w < 12) (hpo : ∀ w q, po w = some q → q < 12) (hlv : ∀ p a, lvN go p a ≤ 16) (hgo : ∀ j, go j ≤ 16) (hca : ∀ j, ca j ≤ 1000) (hix : ∀ y, ix y ≤ 2000) (hT : tM go ca sr po yo mk nw i y (sh, nx) < 2 ^ 62) (hD : tM go ca sr po yo mk nw i y (sh, nx) / 16 ^ (y - bgN po yo mk i y nw) ≤ 1000) : mWl l y_Mo_careOf (w_Mo_careOf :: gt) rm_Mo_careOf V (wM V am th nY ix bu np st sr go ca nw yo ce wo po ne sv cl mk bg dp sh nx spn) [.ref (am 0), .int (nI i), .int (nI y)] (lN (cM ix go ca sr po yo mk nw i y (sh, nx))) (wM V am th nY ix bu np st sr go ca nw yo ce wo po ne sv cl mk bg dp ((lrn go sr po yo mk nw i y (sh, nx)).1) ((lrn go sr po yo mk nw i y (sh, nx)).2) spn) 0 0 := by
  intro sz
  refine gMet (V := V) (As := [.ref (am 0), .int (nI i), .int (nI y)]) (cc := c_Mo_careOf) (maxL := 8) (ret := (some .long)) (by decide) rfl (Nat.le_of_ble_eq_true rfl) (fun a U h => ⟨h.1, h.2.2.2.1⟩) ?_
  intro p e s m below meth c E hr hlk hnm hv
  refine g_toW (sz := sz) (w := wM V am th nY ix bu np st sr go ca nw yo ce wo po ne sv cl mk bg dp sh nx spn) hv.2.2.1 hv.2.2.2.2 ?_
  have hA0 : ∀ q : Nat, s.heap.size ≤ q → va_A (wM V am th nY ix bu np st sr go ca nw yo ce wo po ne sv cl mk bg dp sh nx spn) sz q := fun q h => Or.inr (by rw [← hv.2.1]; exact h)
  have hp : 0 < 16 ^ (y - bgN po yo mk i y nw) := Nat.pow_pos (by decide)
  have hp2 := pow16 (show y - bgN po yo mk i y nw ≤ 11 by omega)
  have hi2 := hix y
  have hm := Nat.mul_le_mul hD hi2
  refine g_aload_n E d_Mo_careOf_0 rfl 0 rfl ?_
  refine g_iload_n E d_Mo_careOf_1 rfl 1 rfl ?_
  refine g_iload_n E d_Mo_careOf_2 rfl 2 rfl ?_
  refine gwVl (As := [.int (nI i), .int (nI y)]) (rest := []) (w' := wM V am th nY ix bu np st sr go ca nw yo ce wo po ne sv cl mk bg dp ((lrn go sr po yo mk nw i y (sh, nx)).1) ((lrn go sr po yo mk nw i y (sh, nx)).2) spn) (mc := 0) (ms := 0) E hA0 0 rfl rfl (C_Mo_learn l i y (by omega) (by omega) (by omega) hnw hmk hyo hpo hlv hgo) (cs_Mo_112 E rfl rfl ⟨Nat.le_of_ble_eq_true rfl, Nat.le_of_ble_eq_true rfl⟩) rfl rfl (Nat.le_of_ble_eq_true rfl) ⟨Nat.zero_le _, Nat.zero_le _⟩ d_Mo_careOf_3 ?_
  refine g_lstore_n (lv' := [(3, .long (lN (16 ^ (y - bgN po yo mk i y nw)))), (0, .ref (am 0)), (1, .int (nI i)), (2, .int (nI y))]) E d_Mo_careOf_6 rfl (by decide) rfl ?_
  refine g_lconst (v := lN 0) E d_Mo_careOf_7 (by decide) ?_
  refine g_lstore (lv' := [(5, .long (lN 0)), (3, .long (lN (16 ^ (y - bgN po yo mk i y nw)))), (0, .ref (am 0)), (1, .int (nI i)), (2, .int (nI y))]) E d_Mo_careOf_8 (by decide) rfl ?_
  refine g_iconst (v := nI 0) E d_Mo_careOf_10 (by decide) ?_
  refine g_istore (lv' := [(7, .int (nI 0)), (5, .long (lN 0)), (3, .long (lN (16 ^ (y - bgN po yo mk i y nw)))), (0, .ref (am 0)), (1, .int (nI i)), (2, .int (nI y))]) E d_Mo_careOf_11 (by decide) rfl ?_
  refine g_lv [0, 1, 2, 3, 4, 5] rfl ?_
  refine gloop (α := Nat × Nat) (fun a_ => gW V _ _ (wM V am th nY ix bu np st sr go ca nw yo ce wo po ne sv cl mk bg dp ((lrn go sr po yo mk nw i y (sh, nx)).1) ((lrn go sr po yo mk nw i y (sh, nx)).2) spn)) (fun a_ => [(7, .int (nI a_.1)), (5, .long (lN a_.2)), (3, .long (lN (16 ^ (y - bgN po yo mk i y nw)))), (0, .ref (am 0)), (1, .int (nI i)), (2, .int (nI y))]) (fun a_ => a_.1 ≤ 4 ∧ a_.2 = sumN (fun a => (lrn go sr po yo mk nw i y (sh, nx)).1 a * ca (4 * i + a)) a_.1) (fun a_ => 4 - a_.1) (0, 0) (⟨Nat.zero_le _, rfl⟩) ?_
  rintro ⟨t, acc⟩ hI_13 ih_13
  try dsimp only at hI_13 ih_13 ⊢
  refine g_iload E d_Mo_careOf_13 0 rfl ?_
  refine g_iconst (v := nI 4) E d_Mo_careOf_15 (by decide) ?_
  refine g_ncmp_ge E 50 d_Mo_careOf_16 (by decide) (by omega) (by omega) (fun h1 => ?_) (fun h1 => ?_)
  · have ha : acc = tM go ca sr po yo mk nw i y (sh, nx) := by rw [hI_13.2, show t = 4 by omega]; rfl
    refine g_lload E d_Mo_careOf_50 1 rfl ?_
    refine g_lload_n E d_Mo_careOf_52 rfl 2 rfl ?_
    refine g_ldiv E d_Mo_careOf_53 (by rw [show (0 : Int64) = lN 0 from rfl, pk_lEQ (by omega) (by decide)]; omega) ?_
    refine g_topl (by rw [pk_lDiv (by omega) hp (by omega), ha]) ?_
    refine g_aload_n E d_Mo_careOf_54 rfl 3 rfl ?_
    refine gf_Mo_7 E gO_w 0 rfl rfl d_Mo_careOf_55 ?_
    refine g_iload_n E d_Mo_careOf_58 rfl 5 rfl ?_
    refine g_ldN E gO_w 1 rfl (by omega) (by decide) d_Mo_careOf_59 ?_
    refine g_i2l E d_Mo_careOf_60 ?_
    refine g_topl (nI_l (by omega)) ?_
    refine g_lmul E d_Mo_careOf_61 ?_
    refine g_topl (lN_mul _ _) ?_
    refine g_ldc2 E kk_Mo_104 d_Mo_careOf_62 ?_
    refine g_topl (show ((1000) : Int64) = lN 1000 from by decide) ?_
    refine g_ldiv E d_Mo_careOf_65 (by decide) ?_
    refine g_topl (pk_lDiv (by omega) (by decide) (by decide)) ?_
    exact g_lret E hr hlk d_Mo_careOf_66 (gq_wl (w1 := fun _ => wM V am th nY ix bu np st sr go ca nw yo ce wo po ne sv cl mk bg dp ((lrn go sr po yo mk nw i y (sh, nx)).1) ((lrn go sr po yo mk nw i y (sh, nx)).2) spn) () (rfl))
  · refine g_lload E d_Mo_careOf_19 1 rfl ?_
    refine g_aload_n E d_Mo_careOf_21 rfl 3 rfl ?_
    refine gf_Mo_50 E gO_w 0 rfl rfl d_Mo_careOf_22 ?_
    refine g_iload E d_Mo_careOf_25 0 rfl ?_
    refine g_ldL E gO_w 14 rfl (by omega) (by decide) d_Mo_careOf_27 ?_
    refine g_aload_n E d_Mo_careOf_28 rfl 3 rfl ?_
    refine gf_Mo_25 E gO_w 0 rfl rfl d_Mo_careOf_29 ?_
    refine g_iconst (v := nI 4) E d_Mo_careOf_32 (by decide) ?_
    refine g_iload_n E d_Mo_careOf_33 rfl 4 rfl ?_
    refine g_imul E d_Mo_careOf_34 ?_
    refine g_topi (pk_mul _ _) ?_
    refine g_iload E d_Mo_careOf_35 0 rfl ?_
    refine g_iadd E d_Mo_careOf_37 ?_
    refine g_topi (nI_add _ _) ?_
    refine g_ldN E gO_w 6 rfl (by omega) (by decide) d_Mo_careOf_38 ?_
    refine g_i2l E d_Mo_careOf_39 ?_
    refine g_topl (nI_l (Nat.lt_of_le_of_lt (hca _) (by decide))) ?_
    refine g_lmul E d_Mo_careOf_40 ?_
    refine g_topl (lN_mul _ _) ?_
    refine g_ladd E d_Mo_careOf_41 ?_
    refine g_topl (lN_add _ _) ?_
    refine g_lstore (lv' := [(5, .long (lN (acc + ((((lrn go sr po yo mk nw i y (sh, nx)).1) t) * (ca ((4 * i) + t)))))), (7, .int (nI t)), (3, .long (lN (16 ^ (y - bgN po yo mk i y nw)))), (0, .ref (am 0)), (1, .int (nI i)), (2, .int (nI y))]) E d_Mo_careOf_42 (by decide) rfl ?_
    refine g_iinc (lv' := [(7, .int (nI (t + 1))), (5, .long (lN (acc + ((((lrn go sr po yo mk nw i y (sh, nx)).1) t) * (ca ((4 * i) + t)))))), (3, .long (lN (16 ^ (y - bgN po yo mk i y nw)))), (0, .ref (am 0)), (1, .int (nI i)), (2, .int (nI y))]) E d_Mo_careOf_44 1 rfl (nI_inc _) (by decide) rfl ?_
    refine g_goto E 13 d_Mo_careOf_47 (by decide) ?_
    refine g_lv [0, 1, 2, 3, 4, 5] rfl ?_
    exact ih_13 (t + 1, acc + ((((lrn go sr po yo mk nw i y (sh, nx)).1) t) * (ca ((4 * i) + t)))) (⟨by (try dsimp only); omega, by (try dsimp only); rw [hI_13.2]; rfl⟩) (by (try dsimp only); omega)
