/-! The model's reserve and its public methods. -/
theorem twoW_y {nw a b : Nat} (ha : a < nw) (hb : b < nw) (hn : nw < 2 ^ 31) (h : a ≠ b) : twoW nw (nI a) (nI b) = true := by
  rw [twoW, inR_y ha hn, inR_y hb hn]
  simp [nI_eq (show a < 2 ^ 31 by omega) (show b < 2 ^ 31 by omega), h]
def jP (go sr : Nat → Nat) (po : Nat → Option Nat) (yo : Nat → Nat) (mk nw y : Nat) (u : (Nat → Nat) × (Nat → Nat)) : Nat → (Nat → Nat) × (Nat → Nat)
  | 0 => u
  | p + 1 => lrn go sr po yo mk nw p y (jP go sr po yo mk nw y u p)
def jY (go sr : Nat → Nat) (po : Nat → Option Nat) (yo : Nat → Nat) (mk nw np : Nat) (u : (Nat → Nat) × (Nat → Nat)) : Nat → (Nat → Nat) × (Nat → Nat)
  | 0 => u
  | y + 1 => jP go sr po yo mk nw y (jY go sr po yo mk nw np u y) np
def jZ (go sr : Nat → Nat) (po : Nat → Option Nat) (yo : Nat → Nat) (mk nw np : Nat) (u : (Nat → Nat) × (Nat → Nat)) : Nat → (Nat → Nat) × (Nat → Nat)
  | 0 => u
  | y + 1 => jY go sr po yo mk nw np (jZ go sr po yo mk nw np u y) (y + 1)
def enZ (f : Nat → Int) (n : Nat) : Nat := match fs0 f n with
  | some i => i + 1
  | none => n
def dM (cf : Nat → Nat → Nat) (c : Nat → Int) (dp np y : Nat) : Int := (dp : Int) - c y - sumZ (fun i => (cf i y : Int)) np
def rM (cf : Nat → Nat → Nat) (c : Nat → Int) (bg dp np y : Nat) : Int := (bg : Int) + sumZ (dM cf c dp np) (y + 1)
def spM (wv : Nat → Nat) (ag : Nat → Bool) (co ov : Nat → Int) (s0 : Int) : Nat → Int
  | 0 => s0
  | n + 1 => if decide ((chN wv ag co ov n).2.1 ≤ wv (n + 1)) && ag (n + 1) then co (n + 1) else spM wv ag co ov s0 n

set_option maxHeartbeats 4000000 in
set_option maxRecDepth 100000 in
theorem C_Mo_reserveOf (l : Launch) {V : gV} {am : Nat → Nat} {th nY : Nat} {ix bu : Nat → Nat} {np : Nat} {st sr go ca : Nat → Nat} {nw : Nat} {yo ce wo : Nat → Nat} {po ne : Nat → Option Nat} {sv : Nat → Nat} {cl : Nat → Bool} {mk bg dp : Nat} {sh nx : Nat → Nat} {spn : Int} (y : Nat) (hy : y < 12) (cf : Nat → Nat → Nat) (hCf : ∀ i y u, i < np → y < 12 → cM ix go ca sr po yo mk nw i y u = cf i y) (hnp : np ≤ 12) (hnw : nw ≤ 10) (hmk : mk < 1024) (hyo : ∀ w, yo w < 12) (hpo : ∀ w q, po w = some q → q < 12) (hlv : ∀ p a, lvN go p a ≤ 16) (hgo : ∀ j, go j ≤ 16) (hsr : ∀ i, sr i < 4) (hca : ∀ j, ca j ≤ 1000) (hix : ∀ y, ix y ≤ 2000) (hT : ∀ i y u, i < np → y < 12 → tM go ca sr po yo mk nw i y u < 2 ^ 62) (hD : ∀ i y u, i < np → y < 12 → tM go ca sr po yo mk nw i y u / 16 ^ (y - bgN po yo mk i y nw) ≤ 1000) (hce : ∀ w, ce w ≤ 1000000) (hsv : ∀ j, sv j ≤ 1000000) : mWl l y_Mo_reserveOf (w_Mo_reserveOf :: gt) rm_Mo_reserveOf V (wM V am th nY ix bu np st sr go ca nw yo ce wo po ne sv cl mk bg dp sh nx spn) [.ref (am 0), .int (nI y)] (lI (rM cf (cS ix yo ce (fun a b => sv (10 * a + b)) nw mk) bg dp np y)) (wM V am th nY ix bu np st sr go ca nw yo ce wo po ne sv cl mk bg dp ((jY go sr po yo mk nw np (sh, nx) (y + 1)).1) ((jY go sr po yo mk nw np (sh, nx) (y + 1)).2) spn) 0 0 := by
  intro sz
  refine gMet (V := V) (As := [.ref (am 0), .int (nI y)]) (cc := c_Mo_reserveOf) (maxL := 6) (ret := (some .long)) (by decide) rfl (Nat.le_of_ble_eq_true rfl) (fun a U h => ⟨h.1, h.2.2.2.1⟩) ?_
  intro p e s m below meth c E hr hlk hnm hv
  refine g_toW (sz := sz) (w := wM V am th nY ix bu np st sr go ca nw yo ce wo po ne sv cl mk bg dp sh nx spn) hv.2.2.1 hv.2.2.2.2 ?_
  have hA0 : ∀ q : Nat, s.heap.size ≤ q → va_A (wM V am th nY ix bu np st sr go ca nw yo ce wo po ne sv cl mk bg dp sh nx spn) sz q := fun q h => Or.inr (by rw [← hv.2.1]; exact h)
  refine g_aload_n E d_Mo_reserveOf_0 rfl 0 rfl ?_
  refine gf_Mo_144 E gO_w 0 rfl rfl d_Mo_reserveOf_1 ?_
  refine g_topl (lN_lI _) ?_
  refine g_lstore_n (lv' := [(2, .long (lI (bg : Int))), (0, .ref (am 0)), (1, .int (nI y))]) E d_Mo_reserveOf_4 rfl (by decide) rfl ?_
  refine g_iconst (v := nI 0) E d_Mo_reserveOf_5 (by decide) ?_
  refine g_istore (lv' := [(4, .int (nI 0)), (2, .long (lI (bg : Int))), (0, .ref (am 0)), (1, .int (nI y))]) E d_Mo_reserveOf_6 (by decide) rfl ?_
  refine g_lv [0, 1, 2, 3] rfl ?_
  refine g_ws (ws' := wM V am th nY ix bu np st sr go ca nw yo ce wo po ne sv cl mk bg dp ((jY go sr po yo mk nw np (sh, nx) 0).1) ((jY go sr po yo mk nw np (sh, nx) 0).2) spn) rfl ?_
  refine gloop (α := Nat × Int) (fun a_ => gW V _ _ (wM V am th nY ix bu np st sr go ca nw yo ce wo po ne sv cl mk bg dp ((jY go sr po yo mk nw np (sh, nx) a_.1).1) ((jY go sr po yo mk nw np (sh, nx) a_.1).2) spn)) (fun a_ => [(4, .int (nI a_.1)), (2, .long (lI a_.2)), (0, .ref (am 0)), (1, .int (nI y))]) (fun a_ => a_.1 ≤ y + 1 ∧ a_.2 = (bg : Int) + sumZ (dM cf (cS ix yo ce (fun a b => sv (10 * a + b)) nw mk) dp np) a_.1) (fun a_ => y + 1 - a_.1) (0, (bg : Int)) (⟨Nat.zero_le _, by simp [sumZ]⟩) ?_
  rintro ⟨t, z⟩ hI_8 ih_8
  try dsimp only at hI_8 ih_8 ⊢
  refine g_iload E d_Mo_reserveOf_8 0 rfl ?_
  refine g_iload_n E d_Mo_reserveOf_10 rfl 3 rfl ?_
  refine g_ncmp_gt E 67 d_Mo_reserveOf_11 (by decide) (by omega) (by omega) (fun h1 => ?_) (fun h1 => ?_)
  · refine g_lload_n E d_Mo_reserveOf_67 rfl 1 rfl ?_
    refine g_ws (ws' := wM V am th nY ix bu np st sr go ca nw yo ce wo po ne sv cl mk bg dp ((jY go sr po yo mk nw np (sh, nx) (y + 1)).1) ((jY go sr po yo mk nw np (sh, nx) (y + 1)).2) spn) (by rw [show t = y + 1 by omega]) ?_
    exact g_lret E hr hlk d_Mo_reserveOf_68 (gq_wl (w1 := fun _ => wM V am th nY ix bu np st sr go ca nw yo ce wo po ne sv cl mk bg dp ((jY go sr po yo mk nw np (sh, nx) (y + 1)).1) ((jY go sr po yo mk nw np (sh, nx) (y + 1)).2) spn) () (by rw [hI_8.2, show t = y + 1 by omega]; rfl))
  · refine g_lload_n E d_Mo_reserveOf_14 rfl 1 rfl ?_
    refine g_aload_n E d_Mo_reserveOf_15 rfl 2 rfl ?_
    refine gf_Mo_147 E gO_w 0 rfl rfl d_Mo_reserveOf_16 ?_
    refine g_aload_n E d_Mo_reserveOf_19 rfl 2 rfl ?_
    refine g_aload_n E d_Mo_reserveOf_20 rfl 2 rfl ?_
    refine gf_Mo_106 E gO_w 0 rfl rfl d_Mo_reserveOf_21 ?_
    refine g_iload E d_Mo_reserveOf_24 0 rfl ?_
    refine gpVl (As := [.int (nI mk), .int (nI t)]) (rest := [.long (lN dp), .long (lI z)]) E gO_w 0 rfl rfl (C_Mo_costOf l mk t (by omega) (by omega) hnw hyo hix hce hsv) (cs_Mo_134 E rfl rfl ⟨Nat.le_of_ble_eq_true rfl, Nat.le_of_ble_eq_true rfl⟩) rfl rfl (Nat.le_of_ble_eq_true rfl) ⟨Nat.zero_le _, Nat.zero_le _⟩ d_Mo_reserveOf_26 ?_
    refine g_lsub E d_Mo_reserveOf_29 ?_
    refine g_topl (by rw [lN_lI, lI_sub]) ?_
    refine g_ladd E d_Mo_reserveOf_30 ?_
    refine g_topl (lI_add _ _) ?_
    refine g_lstore_n (lv' := [(2, .long (lI (z + ((dp : Int) - cS ix yo ce (fun a b => sv (10 * a + b)) nw mk t)))), (4, .int (nI t)), (0, .ref (am 0)), (1, .int (nI y))]) E d_Mo_reserveOf_31 rfl (by decide) rfl ?_
    refine g_iconst (v := nI 0) E d_Mo_reserveOf_32 (by decide) ?_
    refine g_istore (lv' := [(5, .int (nI 0)), (2, .long (lI (z + ((dp : Int) - cS ix yo ce (fun a b => sv (10 * a + b)) nw mk t)))), (4, .int (nI t)), (0, .ref (am 0)), (1, .int (nI y))]) E d_Mo_reserveOf_33 (by decide) rfl ?_
    refine g_lv [0, 2, 1, 3, 4] rfl ?_
    refine g_ws (ws' := wM V am th nY ix bu np st sr go ca nw yo ce wo po ne sv cl mk bg dp ((jP go sr po yo mk nw t (jY go sr po yo mk nw np (sh, nx) t) 0).1) ((jP go sr po yo mk nw t (jY go sr po yo mk nw np (sh, nx) t) 0).2) spn) rfl ?_
    refine gloop (α := Nat × Int) (fun a_ => gW V _ _ (wM V am th nY ix bu np st sr go ca nw yo ce wo po ne sv cl mk bg dp ((jP go sr po yo mk nw t (jY go sr po yo mk nw np (sh, nx) t) a_.1).1) ((jP go sr po yo mk nw t (jY go sr po yo mk nw np (sh, nx) t) a_.1).2) spn)) (fun a_ => [(5, .int (nI a_.1)), (4, .int (nI t)), (2, .long (lI a_.2)), (0, .ref (am 0)), (1, .int (nI y))]) (fun a_ => a_.1 ≤ np ∧ a_.2 = z + ((dp : Int) - cS ix yo ce (fun a b => sv (10 * a + b)) nw mk t) - sumZ (fun i => (cf i t : Int)) a_.1) (fun a_ => np - a_.1) (0, z + ((dp : Int) - cS ix yo ce (fun a b => sv (10 * a + b)) nw mk t)) (⟨Nat.zero_le _, by simp [sumZ]⟩) ?_
    rintro ⟨q, z2⟩ hI_35 ih_35
    try dsimp only at hI_35 ih_35 ⊢
    refine g_iload E d_Mo_reserveOf_35 0 rfl ?_
    refine g_aload_n E d_Mo_reserveOf_37 rfl 3 rfl ?_
    refine gf_Mo_68 E gO_w 0 rfl rfl d_Mo_reserveOf_38 ?_
    refine g_ncmp_ge E 61 d_Mo_reserveOf_41 (by decide) (by omega) (by omega) (fun h2 => ?_) (fun h2 => ?_)
    · refine g_iinc (lv' := [(4, .int (nI (t + 1))), (5, .int (nI q)), (2, .long (lI z2)), (0, .ref (am 0)), (1, .int (nI y))]) E d_Mo_reserveOf_61 1 rfl (nI_inc _) (by decide) rfl ?_
      refine g_goto E 8 d_Mo_reserveOf_64 (by decide) ?_
      refine g_lv [0, 2, 3, 4] rfl ?_
      refine g_ws (ws' := wM V am th nY ix bu np st sr go ca nw yo ce wo po ne sv cl mk bg dp ((jY go sr po yo mk nw np (sh, nx) (t + 1)).1) ((jY go sr po yo mk nw np (sh, nx) (t + 1)).2) spn) (by rw [show q = np by omega]; rfl) ?_
      exact ih_8 (t + 1, z2) (⟨by (try dsimp only); omega, by (try dsimp only); rw [hI_35.2, sumZ_s, show q = np by omega, hI_8.2, dM]; omega⟩) (by (try dsimp only); omega)
    · refine g_lload_n E d_Mo_reserveOf_44 rfl 2 rfl ?_
      refine g_aload_n E d_Mo_reserveOf_45 rfl 3 rfl ?_
      refine g_iload E d_Mo_reserveOf_46 0 rfl ?_
      refine g_iload E d_Mo_reserveOf_48 1 rfl ?_
      refine gwVl (As := [.int (nI q), .int (nI t)]) (rest := [.long (lI z2)]) (w' := wM V am th nY ix bu np st sr go ca nw yo ce wo po ne sv cl mk bg dp ((lrn go sr po yo mk nw q t ((jP go sr po yo mk nw t (jY go sr po yo mk nw np (sh, nx) t) q).1, (jP go sr po yo mk nw t (jY go sr po yo mk nw np (sh, nx) t) q).2)).1) ((lrn go sr po yo mk nw q t ((jP go sr po yo mk nw t (jY go sr po yo mk nw np (sh, nx) t) q).1, (jP go sr po yo mk nw t (jY go sr po yo mk nw np (sh, nx) t) q).2)).2) spn) (mc := 0) (ms := 0) E hA0 0 rfl rfl (C_Mo_careOf l q t (by omega) (by omega) (hsr _) hnw hmk hyo hpo hlv hgo hca hix (hT _ _ _ (by omega) (by omega)) (hD _ _ _ (by omega) (by omega))) (cs_Mo_116 E rfl rfl ⟨Nat.le_of_ble_eq_true rfl, Nat.le_of_ble_eq_true rfl⟩) rfl rfl (Nat.le_of_ble_eq_true rfl) ⟨Nat.zero_le _, Nat.zero_le _⟩ d_Mo_reserveOf_50 ?_
      refine g_lsub E d_Mo_reserveOf_53 ?_
      refine g_topl (by rw [hCf _ _ _ (by omega) (by omega), lN_lI, lI_sub]) ?_
      refine g_lstore_n (lv' := [(2, .long (lI (z2 - ((cf q t : Nat) : Int)))), (5, .int (nI q)), (4, .int (nI t)), (0, .ref (am 0)), (1, .int (nI y))]) E d_Mo_reserveOf_54 rfl (by decide) rfl ?_
      refine g_iinc (lv' := [(5, .int (nI (q + 1))), (2, .long (lI (z2 - ((cf q t : Nat) : Int)))), (4, .int (nI t)), (0, .ref (am 0)), (1, .int (nI y))]) E d_Mo_reserveOf_55 1 rfl (nI_inc _) (by decide) rfl ?_
      refine g_goto E 35 d_Mo_reserveOf_58 (by decide) ?_
      refine g_lv [0, 2, 1, 3, 4] rfl ?_
      refine g_ws (ws' := wM V am th nY ix bu np st sr go ca nw yo ce wo po ne sv cl mk bg dp ((jP go sr po yo mk nw t (jY go sr po yo mk nw np (sh, nx) t) (q + 1)).1) ((jP go sr po yo mk nw t (jY go sr po yo mk nw np (sh, nx) t) (q + 1)).2) spn) rfl ?_
      exact ih_35 (q + 1, z2 - ((cf q t : Nat) : Int)) (⟨by (try dsimp only); omega, by (try dsimp only); rw [hI_35.2, sumZ_s]; omega⟩) (by (try dsimp only); omega)

set_option maxHeartbeats 4000000 in
set_option maxRecDepth 100000 in
theorem C_Mo_index (l : Launch) {V : gV} {am : Nat → Nat} {th nY : Nat} {ix bu : Nat → Nat} {np : Nat} {st sr go ca : Nat → Nat} {nw : Nat} {yo ce wo : Nat → Nat} {po ne : Nat → Option Nat} {sv : Nat → Nat} {cl : Nat → Bool} {mk bg dp : Nat} {sh nx : Nat → Nat} {spn : Int} (y v : Nat) (hy : y < nY) (hY : nY ≤ 12) (h1 : 500 ≤ v) (h2 : v ≤ 2000) : mWi l y_Mo_index (w_Mo_index :: gt) rm_Mo_index V (wM V am th nY ix bu np st sr go ca nw yo ce wo po ne sv cl mk bg dp sh nx spn) [.ref (am 0), .int (nI y), .int (nI v)] (nI (ix y)) (wM V am 0 nY (va_up ix y v) bu np st sr go ca nw yo ce wo po ne sv cl mk bg dp sh nx spn) 0 0 := by
  intro sz
  refine gMet (V := V) (As := [.ref (am 0), .int (nI y), .int (nI v)]) (cc := c_Mo_index) (maxL := 4) (ret := (some .int)) (by decide) rfl (Nat.le_of_ble_eq_true rfl) (fun a U h => ⟨h.1, h.2.2.2.1⟩) ?_
  intro p e s m below meth c E hr hlk hnm hv
  refine g_toW (sz := sz) (w := wM V am th nY ix bu np st sr go ca nw yo ce wo po ne sv cl mk bg dp sh nx spn) hv.2.2.1 hv.2.2.2.2 ?_
  have hA0 : ∀ q : Nat, s.heap.size ≤ q → va_A (wM V am th nY ix bu np st sr go ca nw yo ce wo po ne sv cl mk bg dp sh nx spn) sz q := fun q h => Or.inr (by rw [← hv.2.1]; exact h)
  refine g_aload_n E d_Mo_index_0 rfl 0 rfl ?_
  refine g_aload_n E d_Mo_index_1 rfl 0 rfl ?_
  refine g_iload_n E d_Mo_index_2 rfl 1 rfl ?_
  refine gpVi (As := [.int (nI y)]) (rest := [.ref (am 0)]) E gO_w 0 rfl rfl (C_Mo_isYear l (nI y) (by omega)) (cs_Mo_78 E rfl rfl ⟨Nat.le_of_ble_eq_true rfl, Nat.le_of_ble_eq_true rfl⟩) rfl rfl (Nat.le_of_ble_eq_true rfl) ⟨Nat.zero_le _, Nat.zero_le _⟩ d_Mo_index_3 ?_
  refine g_topi (show bI _ = nI 1 from by rw [inR_y (by omega) (by omega)]; rfl) ?_
  refine g_nif_eq E 27 d_Mo_index_6 (by decide) (by decide) (fun h1 => absurd h1 (by decide)) (fun _ => ?_)
  refine g_iload_n E d_Mo_index_9 rfl 2 rfl ?_
  refine g_i2l E d_Mo_index_10 ?_
  refine g_topl (nI_l (by omega)) ?_
  refine g_ldc2 E kk_Mo_81 d_Mo_index_11 ?_
  refine g_topl (show ((500) : Int64) = lN 500 from by decide) ?_
  refine g_ldc2 E kk_Mo_83 d_Mo_index_14 ?_
  refine g_topl (show ((2000) : Int64) = lN 2000 from by decide) ?_
  refine gpSi (As := [.long (lN v), .long (lN 500), .long (lN 2000)]) (rest := [.ref (am 0)]) E gO_w (C_Mo_within l (lN v) (lN 500) (lN 2000)) (cs_Mo_64 E rfl rfl ⟨Nat.le_of_ble_eq_true rfl, Nat.le_of_ble_eq_true rfl⟩) rfl rfl (Nat.le_of_ble_eq_true rfl) ⟨Nat.zero_le _, Nat.zero_le _⟩ d_Mo_index_17 ?_
  refine g_topi (congrArg bI (inBL_N (by omega) (by omega) (by omega))) ?_
  refine g_topi (show bI _ = nI 1 from by rw [inB_y (by omega) (by omega) (by omega)]; rfl) ?_
  refine g_nif_eq E 27 d_Mo_index_20 (by decide) (by decide) (fun h2 => absurd h2 (by decide)) (fun _ => ?_)
  refine g_iconst (v := nI 0) E d_Mo_index_23 (by decide) ?_
  refine g_goto E 28 d_Mo_index_24 (by decide) ?_
  refine gwVi (As := [.int (nI 0)]) (rest := []) (w' := wM V am 0 nY ix bu np st sr go ca nw yo ce wo po ne sv cl mk bg dp sh nx spn) (mc := 0) (ms := 0) E hA0 0 rfl rfl (C_Mo_refuses_0 l) (cs_Mo_85 E rfl rfl ⟨Nat.le_of_ble_eq_true rfl, Nat.le_of_ble_eq_true rfl⟩) rfl rfl (Nat.le_of_ble_eq_true rfl) ⟨Nat.zero_le _, Nat.zero_le _⟩ d_Mo_index_28 ?_
  refine g_nif_eq E 36 d_Mo_index_31 (by decide) (by decide) (fun _ => ?_) (fun h3 => absurd h3 (by decide))
  refine g_aload_n E d_Mo_index_36 rfl 0 rfl ?_
  refine gf_Mo_7 E gO_w 0 rfl rfl d_Mo_index_37 ?_
  refine g_iload_n E d_Mo_index_40 rfl 1 rfl ?_
  refine g_ldN E gO_w 1 rfl (by omega) (by decide) d_Mo_index_41 ?_
  refine g_istore_n (lv' := [(3, .int (nI (ix y))), (0, .ref (am 0)), (1, .int (nI y)), (2, .int (nI v))]) E d_Mo_index_42 rfl (by decide) rfl ?_
  refine g_aload_n E d_Mo_index_43 rfl 1 rfl ?_
  refine gf_Mo_7 E gO_w 0 rfl rfl d_Mo_index_44 ?_
  refine g_iload_n E d_Mo_index_47 rfl 2 rfl ?_
  refine g_iload_n E d_Mo_index_48 rfl 3 rfl ?_
  refine g_stN (ws' := wM V am 0 nY (va_up ix y v) bu np st sr go ca nw yo ce wo po ne sv cl mk bg dp sh nx spn) E 1 rfl (by omega) (by decide) rfl d_Mo_index_49 ?_
  refine g_iload_n E d_Mo_index_50 rfl 0 rfl ?_
  exact g_iret E hr hlk d_Mo_index_51 (gq_wi (w1 := fun _ => wM V am 0 nY (va_up ix y v) bu np st sr go ca nw yo ce wo po ne sv cl mk bg dp sh nx spn) () (rfl))

set_option maxHeartbeats 4000000 in
set_option maxRecDepth 100000 in
theorem C_Mo_budget (l : Launch) {V : gV} {am : Nat → Nat} {th nY : Nat} {ix bu : Nat → Nat} {np : Nat} {st sr go ca : Nat → Nat} {nw : Nat} {yo ce wo : Nat → Nat} {po ne : Nat → Option Nat} {sv : Nat → Nat} {cl : Nat → Bool} {mk bg dp : Nat} {sh nx : Nat → Nat} {spn : Int} (y v : Nat) (hy : y < nY) (hY : nY ≤ 12) (h2 : v ≤ 1000000000) : mWi l y_Mo_budget (w_Mo_budget :: gt) rm_Mo_budget V (wM V am th nY ix bu np st sr go ca nw yo ce wo po ne sv cl mk bg dp sh nx spn) [.ref (am 0), .int (nI y), .int (nI v)] (nI (bu y)) (wM V am 0 nY ix (va_up bu y v) np st sr go ca nw yo ce wo po ne sv cl mk bg dp sh nx spn) 0 0 := by
  intro sz
  refine gMet (V := V) (As := [.ref (am 0), .int (nI y), .int (nI v)]) (cc := c_Mo_budget) (maxL := 4) (ret := (some .int)) (by decide) rfl (Nat.le_of_ble_eq_true rfl) (fun a U h => ⟨h.1, h.2.2.2.1⟩) ?_
  intro p e s m below meth c E hr hlk hnm hv
  refine g_toW (sz := sz) (w := wM V am th nY ix bu np st sr go ca nw yo ce wo po ne sv cl mk bg dp sh nx spn) hv.2.2.1 hv.2.2.2.2 ?_
  have hA0 : ∀ q : Nat, s.heap.size ≤ q → va_A (wM V am th nY ix bu np st sr go ca nw yo ce wo po ne sv cl mk bg dp sh nx spn) sz q := fun q h => Or.inr (by rw [← hv.2.1]; exact h)
  refine g_aload_n E d_Mo_budget_0 rfl 0 rfl ?_
  refine g_aload_n E d_Mo_budget_1 rfl 0 rfl ?_
  refine g_iload_n E d_Mo_budget_2 rfl 1 rfl ?_
  refine gpVi (As := [.int (nI y)]) (rest := [.ref (am 0)]) E gO_w 0 rfl rfl (C_Mo_isYear l (nI y) (by omega)) (cs_Mo_78 E rfl rfl ⟨Nat.le_of_ble_eq_true rfl, Nat.le_of_ble_eq_true rfl⟩) rfl rfl (Nat.le_of_ble_eq_true rfl) ⟨Nat.zero_le _, Nat.zero_le _⟩ d_Mo_budget_3 ?_
  refine g_topi (show bI _ = nI 1 from by rw [inR_y (by omega) (by omega)]; rfl) ?_
  refine g_nif_eq E 25 d_Mo_budget_6 (by decide) (by decide) (fun h1 => absurd h1 (by decide)) (fun _ => ?_)
  refine g_iload_n E d_Mo_budget_9 rfl 2 rfl ?_
  refine g_i2l E d_Mo_budget_10 ?_
  refine g_topl (nI_l (by omega)) ?_
  refine g_lconst (v := lN 0) E d_Mo_budget_11 (by decide) ?_
  refine g_ldc2 E kk_Mo_88 d_Mo_budget_12 ?_
  refine g_topl (show ((1000000000) : Int64) = lN 1000000000 from by decide) ?_
  refine gpSi (As := [.long (lN v), .long (lN 0), .long (lN 1000000000)]) (rest := [.ref (am 0)]) E gO_w (C_Mo_within l (lN v) (lN 0) (lN 1000000000)) (cs_Mo_64 E rfl rfl ⟨Nat.le_of_ble_eq_true rfl, Nat.le_of_ble_eq_true rfl⟩) rfl rfl (Nat.le_of_ble_eq_true rfl) ⟨Nat.zero_le _, Nat.zero_le _⟩ d_Mo_budget_15 ?_
  refine g_topi (congrArg bI (inBL_N (by omega) (by omega) (by omega))) ?_
  refine g_topi (show bI _ = nI 1 from by rw [inB_y (by omega) (by omega) (by omega)]; rfl) ?_
  refine g_nif_eq E 25 d_Mo_budget_18 (by decide) (by decide) (fun h2 => absurd h2 (by decide)) (fun _ => ?_)
  refine g_iconst (v := nI 0) E d_Mo_budget_21 (by decide) ?_
  refine g_goto E 26 d_Mo_budget_22 (by decide) ?_
  refine gwVi (As := [.int (nI 0)]) (rest := []) (w' := wM V am 0 nY ix bu np st sr go ca nw yo ce wo po ne sv cl mk bg dp sh nx spn) (mc := 0) (ms := 0) E hA0 0 rfl rfl (C_Mo_refuses_0 l) (cs_Mo_85 E rfl rfl ⟨Nat.le_of_ble_eq_true rfl, Nat.le_of_ble_eq_true rfl⟩) rfl rfl (Nat.le_of_ble_eq_true rfl) ⟨Nat.zero_le _, Nat.zero_le _⟩ d_Mo_budget_26 ?_
  refine g_nif_eq E 34 d_Mo_budget_29 (by decide) (by decide) (fun _ => ?_) (fun h3 => absurd h3 (by decide))
  refine g_aload_n E d_Mo_budget_34 rfl 0 rfl ?_
  refine gf_Mo_13 E gO_w 0 rfl rfl d_Mo_budget_35 ?_
  refine g_iload_n E d_Mo_budget_38 rfl 1 rfl ?_
  refine g_ldN E gO_w 2 rfl (by omega) (by decide) d_Mo_budget_39 ?_
  refine g_istore_n (lv' := [(3, .int (nI (bu y))), (0, .ref (am 0)), (1, .int (nI y)), (2, .int (nI v))]) E d_Mo_budget_40 rfl (by decide) rfl ?_
  refine g_aload_n E d_Mo_budget_41 rfl 1 rfl ?_
  refine gf_Mo_13 E gO_w 0 rfl rfl d_Mo_budget_42 ?_
  refine g_iload_n E d_Mo_budget_45 rfl 2 rfl ?_
  refine g_iload_n E d_Mo_budget_46 rfl 3 rfl ?_
  refine g_stN (ws' := wM V am 0 nY ix (va_up bu y v) np st sr go ca nw yo ce wo po ne sv cl mk bg dp sh nx spn) E 2 rfl (by omega) (by decide) rfl d_Mo_budget_47 ?_
  refine g_iload_n E d_Mo_budget_48 rfl 0 rfl ?_
  exact g_iret E hr hlk d_Mo_budget_49 (gq_wi (w1 := fun _ => wM V am 0 nY ix (va_up bu y v) np st sr go ca nw yo ce wo po ne sv cl mk bg dp sh nx spn) () (rfl))

set_option maxHeartbeats 4000000 in
set_option maxRecDepth 100000 in
theorem C_Mo_part (l : Launch) {V : gV} {am : Nat → Nat} {th nY : Nat} {ix bu : Nat → Nat} {np : Nat} {st sr go ca : Nat → Nat} {nw : Nat} {yo ce wo : Nat → Nat} {po ne : Nat → Option Nat} {sv : Nat → Nat} {cl : Nat → Bool} {mk bg dp : Nat} {sh nx : Nat → Nat} {spn : Int} (k r : Nat) (h1 : 2 ≤ k) (h2 : k ≤ 4) (h3 : r < k) (hnp : np < 12) : mWi l y_Mo_part (w_Mo_part :: gt) rm_Mo_part V (wM V am th nY ix bu np st sr go ca nw yo ce wo po ne sv cl mk bg dp sh nx spn) [.ref (am 0), .int (nI k), .int (nI r)] (nI np) (wM V am 0 nY ix bu (np + 1) (va_up st np k) (va_up sr np r) go ca nw yo ce wo po ne sv cl mk bg dp sh nx spn) 0 0 := by
  intro sz
  refine gMet (V := V) (As := [.ref (am 0), .int (nI k), .int (nI r)]) (cc := c_Mo_part) (maxL := 4) (ret := (some .int)) (by decide) rfl (Nat.le_of_ble_eq_true rfl) (fun a U h => ⟨h.1, h.2.2.2.1⟩) ?_
  intro p e s m below meth c E hr hlk hnm hv
  refine g_toW (sz := sz) (w := wM V am th nY ix bu np st sr go ca nw yo ce wo po ne sv cl mk bg dp sh nx spn) hv.2.2.1 hv.2.2.2.2 ?_
  have hA0 : ∀ q : Nat, s.heap.size ≤ q → va_A (wM V am th nY ix bu np st sr go ca nw yo ce wo po ne sv cl mk bg dp sh nx spn) sz q := fun q h => Or.inr (by rw [← hv.2.1]; exact h)
  refine g_iload_n E d_Mo_part_0 rfl 1 rfl ?_
  refine g_i2l E d_Mo_part_1 ?_
  refine g_topl (nI_l (by omega)) ?_
  refine g_ldc2 E kk_Mo_90 d_Mo_part_2 ?_
  refine g_topl (show ((2) : Int64) = lN 2 from by decide) ?_
  refine g_ldc2 E kk_Mo_92 d_Mo_part_5 ?_
  refine g_topl (show ((4) : Int64) = lN 4 from by decide) ?_
  refine gpSi (As := [.long (lN k), .long (lN 2), .long (lN 4)]) (rest := []) E gO_w (C_Mo_within l (lN k) (lN 2) (lN 4)) (cs_Mo_64 E rfl rfl ⟨Nat.le_of_ble_eq_true rfl, Nat.le_of_ble_eq_true rfl⟩) rfl rfl (Nat.le_of_ble_eq_true rfl) ⟨Nat.zero_le _, Nat.zero_le _⟩ d_Mo_part_8 ?_
  refine g_topi (congrArg bI (inBL_N (by omega) (by omega) (by omega))) ?_
  refine g_topi (show bI _ = nI 1 from by rw [inB_y (by omega) (by omega) (by omega)]; rfl) ?_
  refine g_nif_eq E 31 d_Mo_part_11 (by decide) (by decide) (fun h1 => absurd h1 (by decide)) (fun _ => ?_)
  refine g_iload_n E d_Mo_part_14 rfl 2 rfl ?_
  refine g_i2l E d_Mo_part_15 ?_
  refine g_topl (nI_l (by omega)) ?_
  refine g_lconst (v := lN 0) E d_Mo_part_16 (by decide) ?_
  refine g_iload_n E d_Mo_part_17 rfl 1 rfl ?_
  refine g_i2l E d_Mo_part_18 ?_
  refine g_topl (nI_l (by omega)) ?_
  refine g_lconst (v := lN 1) E d_Mo_part_19 (by decide) ?_
  refine g_lsub E d_Mo_part_20 ?_
  refine g_topl (lN_sub (by omega)) ?_
  refine gpSi (As := [.long (lN r), .long (lN 0), .long (lN (k - 1))]) (rest := []) E gO_w (C_Mo_within l (lN r) (lN 0) (lN (k - 1))) (cs_Mo_64 E rfl rfl ⟨Nat.le_of_ble_eq_true rfl, Nat.le_of_ble_eq_true rfl⟩) rfl rfl (Nat.le_of_ble_eq_true rfl) ⟨Nat.zero_le _, Nat.zero_le _⟩ d_Mo_part_21 ?_
  refine g_topi (congrArg bI (inBL_N (by omega) (by omega) (by omega))) ?_
  refine g_topi (show bI _ = nI 1 from by rw [inB_y (by omega) (by omega) (by omega)]; rfl) ?_
  refine g_nif_eq E 31 d_Mo_part_24 (by decide) (by decide) (fun h2 => absurd h2 (by decide)) (fun _ => ?_)
  refine g_iconst (v := nI 1) E d_Mo_part_27 (by decide) ?_
  refine g_goto E 32 d_Mo_part_28 (by decide) ?_
  refine g_istore_n (lv' := [(3, .int (nI 1)), (0, .ref (am 0)), (1, .int (nI k)), (2, .int (nI r))]) E d_Mo_part_32 rfl (by decide) rfl ?_
  refine g_aload_n E d_Mo_part_33 rfl 1 rfl ?_
  refine g_iload_n E d_Mo_part_34 rfl 0 rfl ?_
  refine g_nif_ne E 42 d_Mo_part_35 (by decide) (by decide) (fun _ => ?_) (fun h3 => absurd h3 (by decide))
  refine g_aload_n E d_Mo_part_42 rfl 1 rfl ?_
  refine gf_Mo_68 E gO_w 0 rfl rfl d_Mo_part_43 ?_
  refine g_bipush (v := nI 12) E d_Mo_part_46 (by decide) ?_
  refine g_ncmp_ne E 55 d_Mo_part_48 (by decide) (by omega) (by omega) (fun h4 => ?_) (fun h4 => ?_)
  · refine g_iconst (v := nI 0) E d_Mo_part_55 (by decide) ?_
    refine gwVi (As := [.int (nI 0)]) (rest := []) (w' := wM V am 0 nY ix bu np st sr go ca nw yo ce wo po ne sv cl mk bg dp sh nx spn) (mc := 0) (ms := 0) E hA0 0 rfl rfl (C_Mo_refuses_0 l) (cs_Mo_85 E rfl rfl ⟨Nat.le_of_ble_eq_true rfl, Nat.le_of_ble_eq_true rfl⟩) rfl rfl (Nat.le_of_ble_eq_true rfl) ⟨Nat.zero_le _, Nat.zero_le _⟩ d_Mo_part_56 ?_
    refine g_nif_eq E 64 d_Mo_part_59 (by decide) (by decide) (fun _ => ?_) (fun h5 => absurd h5 (by decide))
    refine g_aload_n E d_Mo_part_64 rfl 1 rfl ?_
    refine gf_Mo_16 E gO_w 0 rfl rfl d_Mo_part_65 ?_
    refine g_aload_n E d_Mo_part_68 rfl 1 rfl ?_
    refine gf_Mo_68 E gO_w 0 rfl rfl d_Mo_part_69 ?_
    refine g_iload_n E d_Mo_part_72 rfl 2 rfl ?_
    refine g_stN (ws' := wM V am 0 nY ix bu np (va_up st np k) sr go ca nw yo ce wo po ne sv cl mk bg dp sh nx spn) E 3 rfl (by omega) (by decide) rfl d_Mo_part_73 ?_
    refine g_aload_n E d_Mo_part_74 rfl 1 rfl ?_
    refine gf_Mo_19 E gO_w 0 rfl rfl d_Mo_part_75 ?_
    refine g_aload_n E d_Mo_part_78 rfl 1 rfl ?_
    refine gf_Mo_68 E gO_w 0 rfl rfl d_Mo_part_79 ?_
    refine g_iload_n E d_Mo_part_82 rfl 3 rfl ?_
    refine g_stN (ws' := wM V am 0 nY ix bu np (va_up st np k) (va_up sr np r) go ca nw yo ce wo po ne sv cl mk bg dp sh nx spn) E 4 rfl (by omega) (by decide) rfl d_Mo_part_83 ?_
    refine g_aload_n E d_Mo_part_84 rfl 1 rfl ?_
    refine g_dup E d_Mo_part_85 rfl ?_
    refine gf_Mo_68 E gO_w 0 rfl rfl d_Mo_part_86 ?_
    refine g_iconst (v := nI 1) E d_Mo_part_89 (by decide) ?_
    refine g_iadd E d_Mo_part_90 ?_
    refine g_topi (nI_add _ _) ?_
    refine pf_Mo_68 (ws' := wM V am 0 nY ix bu (np + 1) (va_up st np k) (va_up sr np r) go ca nw yo ce wo po ne sv cl mk bg dp sh nx spn) E 0 rfl rfl rfl (Nat.le_of_ble_eq_true rfl) rfl d_Mo_part_91 ?_
    refine g_aload_n E d_Mo_part_94 rfl 1 rfl ?_
    refine gf_Mo_68 E gO_w 0 rfl rfl d_Mo_part_95 ?_
    refine g_iconst (v := nI 1) E d_Mo_part_98 (by decide) ?_
    refine g_isub E d_Mo_part_99 ?_
    refine g_topi (pk_sub (by omega)) ?_
    exact g_iret E hr hlk d_Mo_part_100 (gq_wi (w1 := fun _ => wM V am 0 nY ix bu (np + 1) (va_up st np k) (va_up sr np r) go ca nw yo ce wo po ne sv cl mk bg dp sh nx spn) () (rfl))
  · exact absurd h4 (by omega)

set_option maxHeartbeats 4000000 in
set_option maxRecDepth 100000 in
theorem C_Mo_moves (l : Launch) {V : gV} {am : Nat → Nat} {th nY : Nat} {ix bu : Nat → Nat} {np : Nat} {st sr go ca : Nat → Nat} {nw : Nat} {yo ce wo : Nat → Nat} {po ne : Nat → Option Nat} {sv : Nat → Nat} {cl : Nat → Bool} {mk bg dp : Nat} {sh nx : Nat → Nat} {spn : Int} (i a b v : Nat) (hi : i < np) (hnp : np ≤ 12) (hst : ∀ i, st i ≤ 4) (ha : a < st i) (hb : b < st i) (hab : a ≠ b) (hv16 : v ≤ 16) (hlv : lvN go i a ≤ 16) (hle : lvN go i a + v ≤ 16 + go (16 * i + 4 * a + b)) : mWi l y_Mo_moves (w_Mo_moves :: gt) rm_Mo_moves V (wM V am th nY ix bu np st sr go ca nw yo ce wo po ne sv cl mk bg dp sh nx spn) [.ref (am 0), .int (nI i), .int (nI a), .int (nI b), .int (nI v)] (nI (go (16 * i + 4 * a + b))) (wM V am 0 nY ix bu np st sr (va_up go (16 * i + 4 * a + b) v) ca nw yo ce wo po ne sv cl mk bg dp sh nx spn) 0 0 := by
  intro sz
  refine gMet (V := V) (As := [.ref (am 0), .int (nI i), .int (nI a), .int (nI b), .int (nI v)]) (cc := c_Mo_moves) (maxL := 7) (ret := (some .int)) (by decide) rfl (Nat.le_of_ble_eq_true rfl) (fun a U h => ⟨h.1, h.2.2.2.1⟩) ?_
  intro p e s m below meth c E hr hlk hnm hv
  refine g_toW (sz := sz) (w := wM V am th nY ix bu np st sr go ca nw yo ce wo po ne sv cl mk bg dp sh nx spn) hv.2.2.1 hv.2.2.2.2 ?_
  have hA0 : ∀ q : Nat, s.heap.size ≤ q → va_A (wM V am th nY ix bu np st sr go ca nw yo ce wo po ne sv cl mk bg dp sh nx spn) sz q := fun q h => Or.inr (by rw [← hv.2.1]; exact h)
  have hs := hst i
  have hg : go (16 * i + 4 * a + b) ≤ lvN go i a := sumN_at (f := fun b => go (16 * i + 4 * a + b)) (show b < 4 by omega)
  refine g_aload_n E d_Mo_moves_0 rfl 0 rfl ?_
  refine g_iload_n E d_Mo_moves_1 rfl 1 rfl ?_
  refine g_iload_n E d_Mo_moves_2 rfl 2 rfl ?_
  refine gpVi (As := [.int (nI i), .int (nI a)]) (rest := []) E gO_w 0 rfl rfl (C_Mo_isState l (nI i) (nI a) (by omega) hst) (cs_Mo_94 E rfl rfl ⟨Nat.le_of_ble_eq_true rfl, Nat.le_of_ble_eq_true rfl⟩) rfl rfl (Nat.le_of_ble_eq_true rfl) ⟨Nat.zero_le _, Nat.zero_le _⟩ d_Mo_moves_3 ?_
  refine g_topi (show bI _ = nI 1 from by rw [hasSt_y (by omega) (by omega) (by omega) (by omega)]; rfl) ?_
  refine g_nif_eq E 40 d_Mo_moves_6 (by decide) (by decide) (fun h1 => absurd h1 (by decide)) (fun _ => ?_)
  refine g_aload_n E d_Mo_moves_9 rfl 0 rfl ?_
  refine g_iload_n E d_Mo_moves_10 rfl 1 rfl ?_
  refine g_iload_n E d_Mo_moves_11 rfl 3 rfl ?_
  refine gpVi (As := [.int (nI i), .int (nI b)]) (rest := []) E gO_w 0 rfl rfl (C_Mo_isState l (nI i) (nI b) (by omega) hst) (cs_Mo_94 E rfl rfl ⟨Nat.le_of_ble_eq_true rfl, Nat.le_of_ble_eq_true rfl⟩) rfl rfl (Nat.le_of_ble_eq_true rfl) ⟨Nat.zero_le _, Nat.zero_le _⟩ d_Mo_moves_12 ?_
  refine g_topi (show bI _ = nI 1 from by rw [hasSt_y (by omega) (by omega) (by omega) (by omega)]; rfl) ?_
  refine g_nif_eq E 40 d_Mo_moves_15 (by decide) (by decide) (fun h2 => absurd h2 (by decide)) (fun _ => ?_)
  refine g_iload_n E d_Mo_moves_18 rfl 2 rfl ?_
  refine g_iload_n E d_Mo_moves_19 rfl 3 rfl ?_
  refine g_ncmp_eq E 40 d_Mo_moves_20 (by decide) (by omega) (by omega) (fun h3 => ?_) (fun h3 => ?_)
  · exact absurd h3 (by omega)
  · refine g_iload E d_Mo_moves_23 4 rfl ?_
    refine g_i2l E d_Mo_moves_25 ?_
    refine g_topl (nI_l (by omega)) ?_
    refine g_lconst (v := lN 0) E d_Mo_moves_26 (by decide) ?_
    refine g_ldc2 E kk_Mo_98 d_Mo_moves_27 ?_
    refine g_topl (show ((16) : Int64) = lN 16 from by decide) ?_
    refine gpSi (As := [.long (lN v), .long (lN 0), .long (lN 16)]) (rest := []) E gO_w (C_Mo_within l (lN v) (lN 0) (lN 16)) (cs_Mo_64 E rfl rfl ⟨Nat.le_of_ble_eq_true rfl, Nat.le_of_ble_eq_true rfl⟩) rfl rfl (Nat.le_of_ble_eq_true rfl) ⟨Nat.zero_le _, Nat.zero_le _⟩ d_Mo_moves_30 ?_
    refine g_topi (congrArg bI (inBL_N (by omega) (by omega) (by omega))) ?_
    refine g_topi (show bI _ = nI 1 from by rw [inB_y (by omega) (by omega) (by omega)]; rfl) ?_
    refine g_nif_eq E 40 d_Mo_moves_33 (by decide) (by decide) (fun h4 => absurd h4 (by decide)) (fun _ => ?_)
    refine g_iconst (v := nI 1) E d_Mo_moves_36 (by decide) ?_
    refine g_goto E 41 d_Mo_moves_37 (by decide) ?_
    refine g_istore (lv' := [(5, .int (nI 1)), (0, .ref (am 0)), (1, .int (nI i)), (2, .int (nI a)), (3, .int (nI b)), (4, .int (nI v))]) E d_Mo_moves_41 (by decide) rfl ?_
    refine g_iload E d_Mo_moves_43 0 rfl ?_
    refine g_nif_eq E 66 d_Mo_moves_45 (by decide) (by decide) (fun h5 => absurd h5 (by decide)) (fun _ => ?_)
    refine g_aload_n E d_Mo_moves_48 rfl 1 rfl ?_
    refine gf_Mo_22 E gO_w 0 rfl rfl d_Mo_moves_49 ?_
    refine g_bipush (v := nI 16) E d_Mo_moves_52 (by decide) ?_
    refine g_iload_n E d_Mo_moves_54 rfl 2 rfl ?_
    refine g_imul E d_Mo_moves_55 ?_
    refine g_topi (pk_mul _ _) ?_
    refine g_iconst (v := nI 4) E d_Mo_moves_56 (by decide) ?_
    refine g_iload_n E d_Mo_moves_57 rfl 3 rfl ?_
    refine g_imul E d_Mo_moves_58 ?_
    refine g_topi (pk_mul _ _) ?_
    refine g_iadd E d_Mo_moves_59 ?_
    refine g_topi (nI_add _ _) ?_
    refine g_iload_n E d_Mo_moves_60 rfl 4 rfl ?_
    refine g_iadd E d_Mo_moves_61 ?_
    refine g_topi (nI_add _ _) ?_
    refine g_ldN E gO_w 5 rfl (by omega) (by decide) d_Mo_moves_62 ?_
    refine g_goto E 67 d_Mo_moves_63 (by decide) ?_
    refine g_istore (lv' := [(6, .int (nI (go (((16 * i) + (4 * a)) + b)))), (5, .int (nI 1)), (0, .ref (am 0)), (1, .int (nI i)), (2, .int (nI a)), (3, .int (nI b)), (4, .int (nI v))]) E d_Mo_moves_67 (by decide) rfl ?_
    refine g_aload_n E d_Mo_moves_69 rfl 2 rfl ?_
    refine g_iload E d_Mo_moves_70 1 rfl ?_
    refine g_nif_eq E 92 d_Mo_moves_72 (by decide) (by decide) (fun h6 => absurd h6 (by decide)) (fun _ => ?_)
    refine g_aload_n E d_Mo_moves_75 rfl 2 rfl ?_
    refine g_iload_n E d_Mo_moves_76 rfl 3 rfl ?_
    refine g_iload_n E d_Mo_moves_77 rfl 4 rfl ?_
    refine gpVi (As := [.int (nI i), .int (nI a)]) (rest := [.ref (am 0)]) E gO_w 0 rfl rfl (C_Mo_leaving l i a (by omega) (by omega)) (cs_Mo_100 E rfl rfl ⟨Nat.le_of_ble_eq_true rfl, Nat.le_of_ble_eq_true rfl⟩) rfl rfl (Nat.le_of_ble_eq_true rfl) ⟨Nat.zero_le _, Nat.zero_le _⟩ d_Mo_moves_78 ?_
    refine g_iload E d_Mo_moves_81 0 rfl ?_
    refine g_isub E d_Mo_moves_83 ?_
    refine g_topi (pk_sub (by omega)) ?_
    refine g_iload E d_Mo_moves_84 6 rfl ?_
    refine g_iadd E d_Mo_moves_86 ?_
    refine g_topi (nI_add _ _) ?_
    refine g_bipush (v := nI 16) E d_Mo_moves_87 (by decide) ?_
    refine g_ncmp_le E 96 d_Mo_moves_89 (by decide) (by omega) (by omega) (fun h7 => ?_) (fun h7 => ?_)
    · refine g_iconst (v := nI 0) E d_Mo_moves_96 (by decide) ?_
      refine gwVi (As := [.int (nI 0)]) (rest := []) (w' := wM V am 0 nY ix bu np st sr go ca nw yo ce wo po ne sv cl mk bg dp sh nx spn) (mc := 0) (ms := 0) E hA0 0 rfl rfl (C_Mo_refuses_0 l) (cs_Mo_85 E rfl rfl ⟨Nat.le_of_ble_eq_true rfl, Nat.le_of_ble_eq_true rfl⟩) rfl rfl (Nat.le_of_ble_eq_true rfl) ⟨Nat.zero_le _, Nat.zero_le _⟩ d_Mo_moves_97 ?_
      refine g_nif_eq E 105 d_Mo_moves_100 (by decide) (by decide) (fun _ => ?_) (fun h8 => absurd h8 (by decide))
      refine g_aload_n E d_Mo_moves_105 rfl 2 rfl ?_
      refine gf_Mo_22 E gO_w 0 rfl rfl d_Mo_moves_106 ?_
      refine g_bipush (v := nI 16) E d_Mo_moves_109 (by decide) ?_
      refine g_iload_n E d_Mo_moves_111 rfl 3 rfl ?_
      refine g_imul E d_Mo_moves_112 ?_
      refine g_topi (pk_mul _ _) ?_
      refine g_iconst (v := nI 4) E d_Mo_moves_113 (by decide) ?_
      refine g_iload_n E d_Mo_moves_114 rfl 4 rfl ?_
      refine g_imul E d_Mo_moves_115 ?_
      refine g_topi (pk_mul _ _) ?_
      refine g_iadd E d_Mo_moves_116 ?_
      refine g_topi (nI_add _ _) ?_
      refine g_iload_n E d_Mo_moves_117 rfl 5 rfl ?_
      refine g_iadd E d_Mo_moves_118 ?_
      refine g_topi (nI_add _ _) ?_
      refine g_iload E d_Mo_moves_119 6 rfl ?_
      refine g_stN (ws' := wM V am 0 nY ix bu np st sr (va_up go (((16 * i) + (4 * a)) + b) v) ca nw yo ce wo po ne sv cl mk bg dp sh nx spn) E 5 rfl (by omega) (by decide) rfl d_Mo_moves_121 ?_
      refine g_iload E d_Mo_moves_122 0 rfl ?_
      refine g_ws (ws' := wM V am 0 nY ix bu np st sr (va_up go (16 * i + 4 * a + b) v) ca nw yo ce wo po ne sv cl mk bg dp sh nx spn) (rfl) ?_
      exact g_iret E hr hlk d_Mo_moves_124 (gq_wi (w1 := fun _ => wM V am 0 nY ix bu np st sr (va_up go (16 * i + 4 * a + b) v) ca nw yo ce wo po ne sv cl mk bg dp sh nx spn) () (by simp))
    · exact absurd h7 (by omega)

set_option maxHeartbeats 4000000 in
set_option maxRecDepth 100000 in
theorem C_Mo_care (l : Launch) {V : gV} {am : Nat → Nat} {th nY : Nat} {ix bu : Nat → Nat} {np : Nat} {st sr go ca : Nat → Nat} {nw : Nat} {yo ce wo : Nat → Nat} {po ne : Nat → Option Nat} {sv : Nat → Nat} {cl : Nat → Bool} {mk bg dp : Nat} {sh nx : Nat → Nat} {spn : Int} (i a v : Nat) (hi : i < np) (hnp : np ≤ 12) (hst : ∀ i, st i ≤ 4) (ha : a < st i) (h2 : v ≤ 1000) : mWi l y_Mo_care (w_Mo_care :: gt) rm_Mo_care V (wM V am th nY ix bu np st sr go ca nw yo ce wo po ne sv cl mk bg dp sh nx spn) [.ref (am 0), .int (nI i), .int (nI a), .int (nI v)] (nI (ca (4 * i + a))) (wM V am 0 nY ix bu np st sr go (va_up ca (4 * i + a) v) nw yo ce wo po ne sv cl mk bg dp sh nx spn) 0 0 := by
  intro sz
  refine gMet (V := V) (As := [.ref (am 0), .int (nI i), .int (nI a), .int (nI v)]) (cc := c_Mo_care) (maxL := 5) (ret := (some .int)) (by decide) rfl (Nat.le_of_ble_eq_true rfl) (fun a U h => ⟨h.1, h.2.2.2.1⟩) ?_
  intro p e s m below meth c E hr hlk hnm hv
  refine g_toW (sz := sz) (w := wM V am th nY ix bu np st sr go ca nw yo ce wo po ne sv cl mk bg dp sh nx spn) hv.2.2.1 hv.2.2.2.2 ?_
  have hA0 : ∀ q : Nat, s.heap.size ≤ q → va_A (wM V am th nY ix bu np st sr go ca nw yo ce wo po ne sv cl mk bg dp sh nx spn) sz q := fun q h => Or.inr (by rw [← hv.2.1]; exact h)
  have hs := hst i
  refine g_aload_n E d_Mo_care_0 rfl 0 rfl ?_
  refine g_aload_n E d_Mo_care_1 rfl 0 rfl ?_
  refine g_iload_n E d_Mo_care_2 rfl 1 rfl ?_
  refine g_iload_n E d_Mo_care_3 rfl 2 rfl ?_
  refine gpVi (As := [.int (nI i), .int (nI a)]) (rest := [.ref (am 0)]) E gO_w 0 rfl rfl (C_Mo_isState l (nI i) (nI a) (by omega) hst) (cs_Mo_94 E rfl rfl ⟨Nat.le_of_ble_eq_true rfl, Nat.le_of_ble_eq_true rfl⟩) rfl rfl (Nat.le_of_ble_eq_true rfl) ⟨Nat.zero_le _, Nat.zero_le _⟩ d_Mo_care_4 ?_
  refine g_topi (show bI _ = nI 1 from by rw [hasSt_y (by omega) (by omega) (by omega) (by omega)]; rfl) ?_
  refine g_nif_eq E 26 d_Mo_care_7 (by decide) (by decide) (fun h1 => absurd h1 (by decide)) (fun _ => ?_)
  refine g_iload_n E d_Mo_care_10 rfl 3 rfl ?_
  refine g_i2l E d_Mo_care_11 ?_
  refine g_topl (nI_l (by omega)) ?_
  refine g_lconst (v := lN 0) E d_Mo_care_12 (by decide) ?_
  refine g_ldc2 E kk_Mo_104 d_Mo_care_13 ?_
  refine g_topl (show ((1000) : Int64) = lN 1000 from by decide) ?_
  refine gpSi (As := [.long (lN v), .long (lN 0), .long (lN 1000)]) (rest := [.ref (am 0)]) E gO_w (C_Mo_within l (lN v) (lN 0) (lN 1000)) (cs_Mo_64 E rfl rfl ⟨Nat.le_of_ble_eq_true rfl, Nat.le_of_ble_eq_true rfl⟩) rfl rfl (Nat.le_of_ble_eq_true rfl) ⟨Nat.zero_le _, Nat.zero_le _⟩ d_Mo_care_16 ?_
  refine g_topi (congrArg bI (inBL_N (by omega) (by omega) (by omega))) ?_
  refine g_topi (show bI _ = nI 1 from by rw [inB_y (by omega) (by omega) (by omega)]; rfl) ?_
  refine g_nif_eq E 26 d_Mo_care_19 (by decide) (by decide) (fun h2 => absurd h2 (by decide)) (fun _ => ?_)
  refine g_iconst (v := nI 0) E d_Mo_care_22 (by decide) ?_
  refine g_goto E 27 d_Mo_care_23 (by decide) ?_
  refine gwVi (As := [.int (nI 0)]) (rest := []) (w' := wM V am 0 nY ix bu np st sr go ca nw yo ce wo po ne sv cl mk bg dp sh nx spn) (mc := 0) (ms := 0) E hA0 0 rfl rfl (C_Mo_refuses_0 l) (cs_Mo_85 E rfl rfl ⟨Nat.le_of_ble_eq_true rfl, Nat.le_of_ble_eq_true rfl⟩) rfl rfl (Nat.le_of_ble_eq_true rfl) ⟨Nat.zero_le _, Nat.zero_le _⟩ d_Mo_care_27 ?_
  refine g_nif_eq E 35 d_Mo_care_30 (by decide) (by decide) (fun _ => ?_) (fun h3 => absurd h3 (by decide))
  refine g_aload_n E d_Mo_care_35 rfl 0 rfl ?_
  refine gf_Mo_25 E gO_w 0 rfl rfl d_Mo_care_36 ?_
  refine g_iconst (v := nI 4) E d_Mo_care_39 (by decide) ?_
  refine g_iload_n E d_Mo_care_40 rfl 1 rfl ?_
  refine g_imul E d_Mo_care_41 ?_
  refine g_topi (pk_mul _ _) ?_
  refine g_iload_n E d_Mo_care_42 rfl 2 rfl ?_
  refine g_iadd E d_Mo_care_43 ?_
  refine g_topi (nI_add _ _) ?_
  refine g_ldN E gO_w 6 rfl (by omega) (by decide) d_Mo_care_44 ?_
  refine g_istore (lv' := [(4, .int (nI (ca ((4 * i) + a)))), (0, .ref (am 0)), (1, .int (nI i)), (2, .int (nI a)), (3, .int (nI v))]) E d_Mo_care_45 (by decide) rfl ?_
  refine g_aload_n E d_Mo_care_47 rfl 1 rfl ?_
  refine gf_Mo_25 E gO_w 0 rfl rfl d_Mo_care_48 ?_
  refine g_iconst (v := nI 4) E d_Mo_care_51 (by decide) ?_
  refine g_iload_n E d_Mo_care_52 rfl 2 rfl ?_
  refine g_imul E d_Mo_care_53 ?_
  refine g_topi (pk_mul _ _) ?_
  refine g_iload_n E d_Mo_care_54 rfl 3 rfl ?_
  refine g_iadd E d_Mo_care_55 ?_
  refine g_topi (nI_add _ _) ?_
  refine g_iload_n E d_Mo_care_56 rfl 4 rfl ?_
  refine g_stN (ws' := wM V am 0 nY ix bu np st sr go (va_up ca ((4 * i) + a) v) nw yo ce wo po ne sv cl mk bg dp sh nx spn) E 6 rfl (by omega) (by decide) rfl d_Mo_care_57 ?_
  refine g_iload E d_Mo_care_58 0 rfl ?_
  refine g_ws (ws' := wM V am 0 nY ix bu np st sr go (va_up ca (4 * i + a) v) nw yo ce wo po ne sv cl mk bg dp sh nx spn) (rfl) ?_
  exact g_iret E hr hlk d_Mo_care_60 (gq_wi (w1 := fun _ => wM V am 0 nY ix bu np st sr go (va_up ca (4 * i + a) v) nw yo ce wo po ne sv cl mk bg dp sh nx spn) () (by simp))

set_option maxHeartbeats 4000000 in
set_option maxRecDepth 100000 in
theorem C_Mo_share (l : Launch) {V : gV} {am : Nat → Nat} {th nY : Nat} {ix bu : Nat → Nat} {np : Nat} {st sr go ca : Nat → Nat} {nw : Nat} {yo ce wo : Nat → Nat} {po ne : Nat → Option Nat} {sv : Nat → Nat} {cl : Nat → Bool} {mk bg dp : Nat} {sh nx : Nat → Nat} {spn : Int} (i a y : Nat) (hi : i < np) (hnp : np ≤ 12) (hst : ∀ i, st i ≤ 4) (ha : a < st i) (hy : y < nY) (hY : nY ≤ 12) (hr : sr i < 4) (hnw : nw ≤ 10) (hmk : mk < 1024) (hyo : ∀ w, yo w < 12) (hpo : ∀ w q, po w = some q → q < 12) (hlv : ∀ p a, lvN go p a ≤ 16) (hgo : ∀ j, go j ≤ 16) : mWl l y_Mo_share (w_Mo_share :: gt) rm_Mo_share V (wM V am th nY ix bu np st sr go ca nw yo ce wo po ne sv cl mk bg dp sh nx spn) [.ref (am 0), .int (nI i), .int (nI a), .int (nI y)] (lN ((lrn go sr po yo mk nw i y (sh, nx)).1 a)) (wM V am 0 nY ix bu np st sr go ca nw yo ce wo po ne sv cl mk bg dp ((lrn go sr po yo mk nw i y (sh, nx)).1) ((lrn go sr po yo mk nw i y (sh, nx)).2) spn) 0 0 := by
  intro sz
  refine gMet (V := V) (As := [.ref (am 0), .int (nI i), .int (nI a), .int (nI y)]) (cc := c_Mo_share) (maxL := 6) (ret := (some .long)) (by decide) rfl (Nat.le_of_ble_eq_true rfl) (fun a U h => ⟨h.1, h.2.2.2.1⟩) ?_
  intro p e s m below meth c E hr hlk hnm hv
  refine g_toW (sz := sz) (w := wM V am th nY ix bu np st sr go ca nw yo ce wo po ne sv cl mk bg dp sh nx spn) hv.2.2.1 hv.2.2.2.2 ?_
  have hA0 : ∀ q : Nat, s.heap.size ≤ q → va_A (wM V am th nY ix bu np st sr go ca nw yo ce wo po ne sv cl mk bg dp sh nx spn) sz q := fun q h => Or.inr (by rw [← hv.2.1]; exact h)
  have hs := hst i
  refine g_aload_n E d_Mo_share_0 rfl 0 rfl ?_
  refine g_aload_n E d_Mo_share_1 rfl 0 rfl ?_
  refine g_iload_n E d_Mo_share_2 rfl 1 rfl ?_
  refine g_iload_n E d_Mo_share_3 rfl 2 rfl ?_
  refine gpVi (As := [.int (nI i), .int (nI a)]) (rest := [.ref (am 0)]) E gO_w 0 rfl rfl (C_Mo_isState l (nI i) (nI a) (by omega) hst) (cs_Mo_94 E rfl rfl ⟨Nat.le_of_ble_eq_true rfl, Nat.le_of_ble_eq_true rfl⟩) rfl rfl (Nat.le_of_ble_eq_true rfl) ⟨Nat.zero_le _, Nat.zero_le _⟩ d_Mo_share_4 ?_
  refine g_topi (show bI _ = nI 1 from by rw [hasSt_y (by omega) (by omega) (by omega) (by omega)]; rfl) ?_
  refine g_nif_eq E 22 d_Mo_share_7 (by decide) (by decide) (fun h1 => absurd h1 (by decide)) (fun _ => ?_)
  refine g_aload_n E d_Mo_share_10 rfl 0 rfl ?_
  refine g_iload_n E d_Mo_share_11 rfl 3 rfl ?_
  refine gpVi (As := [.int (nI y)]) (rest := [.ref (am 0)]) E gO_w 0 rfl rfl (C_Mo_isYear l (nI y) (by omega)) (cs_Mo_78 E rfl rfl ⟨Nat.le_of_ble_eq_true rfl, Nat.le_of_ble_eq_true rfl⟩) rfl rfl (Nat.le_of_ble_eq_true rfl) ⟨Nat.zero_le _, Nat.zero_le _⟩ d_Mo_share_12 ?_
  refine g_topi (show bI _ = nI 1 from by rw [inR_y (by omega) (by omega)]; rfl) ?_
  refine g_nif_eq E 22 d_Mo_share_15 (by decide) (by decide) (fun h2 => absurd h2 (by decide)) (fun _ => ?_)
  refine g_iconst (v := nI 0) E d_Mo_share_18 (by decide) ?_
  refine g_goto E 23 d_Mo_share_19 (by decide) ?_
  refine gwVi (As := [.int (nI 0)]) (rest := []) (w' := wM V am 0 nY ix bu np st sr go ca nw yo ce wo po ne sv cl mk bg dp sh nx spn) (mc := 0) (ms := 0) E hA0 0 rfl rfl (C_Mo_refuses_0 l) (cs_Mo_85 E rfl rfl ⟨Nat.le_of_ble_eq_true rfl, Nat.le_of_ble_eq_true rfl⟩) rfl rfl (Nat.le_of_ble_eq_true rfl) ⟨Nat.zero_le _, Nat.zero_le _⟩ d_Mo_share_23 ?_
  refine g_nif_eq E 31 d_Mo_share_26 (by decide) (by decide) (fun _ => ?_) (fun h3 => absurd h3 (by decide))
  refine g_aload_n E d_Mo_share_31 rfl 0 rfl ?_
  refine g_iload_n E d_Mo_share_32 rfl 1 rfl ?_
  refine g_iload_n E d_Mo_share_33 rfl 3 rfl ?_
  refine gwVl (As := [.int (nI i), .int (nI y)]) (rest := []) (w' := wM V am 0 nY ix bu np st sr go ca nw yo ce wo po ne sv cl mk bg dp ((lrn go sr po yo mk nw i y (sh, nx)).1) ((lrn go sr po yo mk nw i y (sh, nx)).2) spn) (mc := 0) (ms := 0) E hA0 0 rfl rfl (C_Mo_learn l i y (by omega) (by omega) (by omega) hnw hmk hyo hpo hlv hgo) (cs_Mo_112 E rfl rfl ⟨Nat.le_of_ble_eq_true rfl, Nat.le_of_ble_eq_true rfl⟩) rfl rfl (Nat.le_of_ble_eq_true rfl) ⟨Nat.zero_le _, Nat.zero_le _⟩ d_Mo_share_34 ?_
  refine g_lstore (lv' := [(4, .long (lN (16 ^ (y - bgN po yo mk i y nw)))), (0, .ref (am 0)), (1, .int (nI i)), (2, .int (nI a)), (3, .int (nI y))]) E d_Mo_share_37 (by decide) rfl ?_
  refine g_aload_n E d_Mo_share_39 rfl 1 rfl ?_
  refine gf_Mo_50 E gO_w 0 rfl rfl d_Mo_share_40 ?_
  refine g_iload_n E d_Mo_share_43 rfl 3 rfl ?_
  refine g_ldL E gO_w 14 rfl (by omega) (by decide) d_Mo_share_44 ?_
  exact g_lret E hr hlk d_Mo_share_45 (gq_wl (w1 := fun _ => wM V am 0 nY ix bu np st sr go ca nw yo ce wo po ne sv cl mk bg dp ((lrn go sr po yo mk nw i y (sh, nx)).1) ((lrn go sr po yo mk nw i y (sh, nx)).2) spn) () (by simp))

set_option maxHeartbeats 4000000 in
set_option maxRecDepth 100000 in
theorem C_Mo_cares (l : Launch) {V : gV} {am : Nat → Nat} {th nY : Nat} {ix bu : Nat → Nat} {np : Nat} {st sr go ca : Nat → Nat} {nw : Nat} {yo ce wo : Nat → Nat} {po ne : Nat → Option Nat} {sv : Nat → Nat} {cl : Nat → Bool} {mk bg dp : Nat} {sh nx : Nat → Nat} {spn : Int} (i y : Nat) (hi : i < np) (hnp : np ≤ 12) (hy : y < nY) (hY : nY ≤ 12) (hnw : nw ≤ 10) (hmk : mk < 1024) (hyo : ∀ w, yo w < 12) (hpo : ∀ w q, po w = some q → q < 12) (hlv : ∀ p a, lvN go p a ≤ 16) (hgo : ∀ j, go j ≤ 16) (hsr : ∀ i, sr i < 4) (hca : ∀ j, ca j ≤ 1000) (hix : ∀ y, ix y ≤ 2000) (hT : ∀ i y u, i < np → y < 12 → tM go ca sr po yo mk nw i y u < 2 ^ 62) (hD : ∀ i y u, i < np → y < 12 → tM go ca sr po yo mk nw i y u / 16 ^ (y - bgN po yo mk i y nw) ≤ 1000) : mWi l y_Mo_cares (w_Mo_cares :: gt) rm_Mo_cares V (wM V am th nY ix bu np st sr go ca nw yo ce wo po ne sv cl mk bg dp sh nx spn) [.ref (am 0), .int (nI i), .int (nI y)] (nI (cM ix go ca sr po yo mk nw i y (sh, nx))) (wM V am 0 nY ix bu np st sr go ca nw yo ce wo po ne sv cl mk bg dp ((lrn go sr po yo mk nw i y (sh, nx)).1) ((lrn go sr po yo mk nw i y (sh, nx)).2) spn) 0 0 := by
  intro sz
  refine gMet (V := V) (As := [.ref (am 0), .int (nI i), .int (nI y)]) (cc := c_Mo_cares) (maxL := 3) (ret := (some .int)) (by decide) rfl (Nat.le_of_ble_eq_true rfl) (fun a U h => ⟨h.1, h.2.2.2.1⟩) ?_
  intro p e s m below meth c E hr hlk hnm hv
  refine g_toW (sz := sz) (w := wM V am th nY ix bu np st sr go ca nw yo ce wo po ne sv cl mk bg dp sh nx spn) hv.2.2.1 hv.2.2.2.2 ?_
  have hA0 : ∀ q : Nat, s.heap.size ≤ q → va_A (wM V am th nY ix bu np st sr go ca nw yo ce wo po ne sv cl mk bg dp sh nx spn) sz q := fun q h => Or.inr (by rw [← hv.2.1]; exact h)
  refine g_aload_n E d_Mo_cares_0 rfl 0 rfl ?_
  refine g_aload_n E d_Mo_cares_1 rfl 0 rfl ?_
  refine g_iload_n E d_Mo_cares_2 rfl 1 rfl ?_
  refine gpVi (As := [.int (nI i)]) (rest := [.ref (am 0)]) E gO_w 0 rfl rfl (C_Mo_isPart l (nI i) (by omega)) (cs_Mo_71 E rfl rfl ⟨Nat.le_of_ble_eq_true rfl, Nat.le_of_ble_eq_true rfl⟩) rfl rfl (Nat.le_of_ble_eq_true rfl) ⟨Nat.zero_le _, Nat.zero_le _⟩ d_Mo_cares_3 ?_
  refine g_topi (show bI _ = nI 1 from by rw [inR_y (by omega) (by omega)]; rfl) ?_
  refine g_nif_eq E 21 d_Mo_cares_6 (by decide) (by decide) (fun h1 => absurd h1 (by decide)) (fun _ => ?_)
  refine g_aload_n E d_Mo_cares_9 rfl 0 rfl ?_
  refine g_iload_n E d_Mo_cares_10 rfl 2 rfl ?_
  refine gpVi (As := [.int (nI y)]) (rest := [.ref (am 0)]) E gO_w 0 rfl rfl (C_Mo_isYear l (nI y) (by omega)) (cs_Mo_78 E rfl rfl ⟨Nat.le_of_ble_eq_true rfl, Nat.le_of_ble_eq_true rfl⟩) rfl rfl (Nat.le_of_ble_eq_true rfl) ⟨Nat.zero_le _, Nat.zero_le _⟩ d_Mo_cares_11 ?_
  refine g_topi (show bI _ = nI 1 from by rw [inR_y (by omega) (by omega)]; rfl) ?_
  refine g_nif_eq E 21 d_Mo_cares_14 (by decide) (by decide) (fun h2 => absurd h2 (by decide)) (fun _ => ?_)
  refine g_iconst (v := nI 0) E d_Mo_cares_17 (by decide) ?_
  refine g_goto E 22 d_Mo_cares_18 (by decide) ?_
  refine gwVi (As := [.int (nI 0)]) (rest := []) (w' := wM V am 0 nY ix bu np st sr go ca nw yo ce wo po ne sv cl mk bg dp sh nx spn) (mc := 0) (ms := 0) E hA0 0 rfl rfl (C_Mo_refuses_0 l) (cs_Mo_85 E rfl rfl ⟨Nat.le_of_ble_eq_true rfl, Nat.le_of_ble_eq_true rfl⟩) rfl rfl (Nat.le_of_ble_eq_true rfl) ⟨Nat.zero_le _, Nat.zero_le _⟩ d_Mo_cares_22 ?_
  refine g_nif_eq E 32 d_Mo_cares_25 (by decide) (by decide) (fun _ => ?_) (fun h3 => absurd h3 (by decide))
  refine g_aload_n E d_Mo_cares_32 rfl 0 rfl ?_
  refine g_iload_n E d_Mo_cares_33 rfl 1 rfl ?_
  refine g_iload_n E d_Mo_cares_34 rfl 2 rfl ?_
  refine gwVl (As := [.int (nI i), .int (nI y)]) (rest := []) (w' := wM V am 0 nY ix bu np st sr go ca nw yo ce wo po ne sv cl mk bg dp ((lrn go sr po yo mk nw i y (sh, nx)).1) ((lrn go sr po yo mk nw i y (sh, nx)).2) spn) (mc := 0) (ms := 0) E hA0 0 rfl rfl (C_Mo_careOf l i y (by omega) (by omega) (hsr _) hnw hmk hyo hpo hlv hgo hca hix (hT _ _ _ (by omega) (by omega)) (hD _ _ _ (by omega) (by omega))) (cs_Mo_116 E rfl rfl ⟨Nat.le_of_ble_eq_true rfl, Nat.le_of_ble_eq_true rfl⟩) rfl rfl (Nat.le_of_ble_eq_true rfl) ⟨Nat.zero_le _, Nat.zero_le _⟩ d_Mo_cares_35 ?_
  refine g_l2i E d_Mo_cares_38 ?_
  refine g_topi (lN_i _) ?_
  exact g_iret E hr hlk d_Mo_cares_39 (gq_wi (w1 := fun _ => wM V am 0 nY ix bu np st sr go ca nw yo ce wo po ne sv cl mk bg dp ((lrn go sr po yo mk nw i y (sh, nx)).1) ((lrn go sr po yo mk nw i y (sh, nx)).2) spn) () (rfl))

set_option maxHeartbeats 4000000 in
set_option maxRecDepth 100000 in
theorem C_Mo_most (l : Launch) {V : gV} {am : Nat → Nat} {th nY : Nat} {ix bu : Nat → Nat} {np : Nat} {st sr go ca : Nat → Nat} {nw : Nat} {yo ce wo : Nat → Nat} {po ne : Nat → Option Nat} {sv : Nat → Nat} {cl : Nat → Bool} {mk bg dp : Nat} {sh nx : Nat → Nat} {spn : Int} (i y : Nat) (hi : i < np) (hnp : np ≤ 12) (hs2 : 2 ≤ st i) (hs : st i ≤ 4) (hy : y < nY) (hY : nY ≤ 12) (hr : sr i < 4) (hnw : nw ≤ 10) (hmk : mk < 1024) (hyo : ∀ w, yo w < 12) (hpo : ∀ w q, po w = some q → q < 12) (hlv : ∀ p a, lvN go p a ≤ 16) (hgo : ∀ j, go j ≤ 16) (hb : ∀ a, a < 4 → (lrn go sr po yo mk nw i y (sh, nx)).1 a < 2 ^ 62) : mWi l y_Mo_most (w_Mo_most :: gt) rm_Mo_most V (wM V am th nY ix bu np st sr go ca nw yo ce wo po ne sv cl mk bg dp sh nx spn) [.ref (am 0), .int (nI i), .int (nI y)] (nI (grS (lrn go sr po yo mk nw i y (sh, nx)).1 (st i - 1))) (wM V am 0 nY ix bu np st sr go ca nw yo ce wo po ne sv cl mk bg dp ((lrn go sr po yo mk nw i y (sh, nx)).1) ((lrn go sr po yo mk nw i y (sh, nx)).2) spn) 0 0 := by
  intro sz
  refine gMet (V := V) (As := [.ref (am 0), .int (nI i), .int (nI y)]) (cc := c_Mo_most) (maxL := 7) (ret := (some .int)) (by decide) rfl (Nat.le_of_ble_eq_true rfl) (fun a U h => ⟨h.1, h.2.2.2.1⟩) ?_
  intro p e s m below meth c E hr hlk hnm hv
  refine g_toW (sz := sz) (w := wM V am th nY ix bu np st sr go ca nw yo ce wo po ne sv cl mk bg dp sh nx spn) hv.2.2.1 hv.2.2.2.2 ?_
  have hA0 : ∀ q : Nat, s.heap.size ≤ q → va_A (wM V am th nY ix bu np st sr go ca nw yo ce wo po ne sv cl mk bg dp sh nx spn) sz q := fun q h => Or.inr (by rw [← hv.2.1]; exact h)
  refine g_aload_n E d_Mo_most_0 rfl 0 rfl ?_
  refine g_aload_n E d_Mo_most_1 rfl 0 rfl ?_
  refine g_iload_n E d_Mo_most_2 rfl 1 rfl ?_
  refine gpVi (As := [.int (nI i)]) (rest := [.ref (am 0)]) E gO_w 0 rfl rfl (C_Mo_isPart l (nI i) (by omega)) (cs_Mo_71 E rfl rfl ⟨Nat.le_of_ble_eq_true rfl, Nat.le_of_ble_eq_true rfl⟩) rfl rfl (Nat.le_of_ble_eq_true rfl) ⟨Nat.zero_le _, Nat.zero_le _⟩ d_Mo_most_3 ?_
  refine g_topi (show bI _ = nI 1 from by rw [inR_y (by omega) (by omega)]; rfl) ?_
  refine g_nif_eq E 21 d_Mo_most_6 (by decide) (by decide) (fun h1 => absurd h1 (by decide)) (fun _ => ?_)
  refine g_aload_n E d_Mo_most_9 rfl 0 rfl ?_
  refine g_iload_n E d_Mo_most_10 rfl 2 rfl ?_
  refine gpVi (As := [.int (nI y)]) (rest := [.ref (am 0)]) E gO_w 0 rfl rfl (C_Mo_isYear l (nI y) (by omega)) (cs_Mo_78 E rfl rfl ⟨Nat.le_of_ble_eq_true rfl, Nat.le_of_ble_eq_true rfl⟩) rfl rfl (Nat.le_of_ble_eq_true rfl) ⟨Nat.zero_le _, Nat.zero_le _⟩ d_Mo_most_11 ?_
  refine g_topi (show bI _ = nI 1 from by rw [inR_y (by omega) (by omega)]; rfl) ?_
  refine g_nif_eq E 21 d_Mo_most_14 (by decide) (by decide) (fun h2 => absurd h2 (by decide)) (fun _ => ?_)
  refine g_iconst (v := nI 0) E d_Mo_most_17 (by decide) ?_
  refine g_goto E 22 d_Mo_most_18 (by decide) ?_
  refine gwVi (As := [.int (nI 0)]) (rest := []) (w' := wM V am 0 nY ix bu np st sr go ca nw yo ce wo po ne sv cl mk bg dp sh nx spn) (mc := 0) (ms := 0) E hA0 0 rfl rfl (C_Mo_refuses_0 l) (cs_Mo_85 E rfl rfl ⟨Nat.le_of_ble_eq_true rfl, Nat.le_of_ble_eq_true rfl⟩) rfl rfl (Nat.le_of_ble_eq_true rfl) ⟨Nat.zero_le _, Nat.zero_le _⟩ d_Mo_most_22 ?_
  refine g_nif_eq E 30 d_Mo_most_25 (by decide) (by decide) (fun _ => ?_) (fun h3 => absurd h3 (by decide))
  refine g_aload_n E d_Mo_most_30 rfl 0 rfl ?_
  refine g_iload_n E d_Mo_most_31 rfl 1 rfl ?_
  refine g_iload_n E d_Mo_most_32 rfl 2 rfl ?_
  refine gwVl (As := [.int (nI i), .int (nI y)]) (rest := []) (w' := wM V am 0 nY ix bu np st sr go ca nw yo ce wo po ne sv cl mk bg dp ((lrn go sr po yo mk nw i y (sh, nx)).1) ((lrn go sr po yo mk nw i y (sh, nx)).2) spn) (mc := 0) (ms := 0) E hA0 0 rfl rfl (C_Mo_learn l i y (by omega) (by omega) (by omega) hnw hmk hyo hpo hlv hgo) (cs_Mo_112 E rfl rfl ⟨Nat.le_of_ble_eq_true rfl, Nat.le_of_ble_eq_true rfl⟩) rfl rfl (Nat.le_of_ble_eq_true rfl) ⟨Nat.zero_le _, Nat.zero_le _⟩ d_Mo_most_33 ?_
  refine g_lstore_n (lv' := [(3, .long (lN (16 ^ (y - bgN po yo mk i y nw)))), (0, .ref (am 0)), (1, .int (nI i)), (2, .int (nI y))]) E d_Mo_most_36 rfl (by decide) rfl ?_
  refine g_iconst (v := nI 0) E d_Mo_most_37 (by decide) ?_
  refine g_istore (lv' := [(5, .int (nI 0)), (3, .long (lN (16 ^ (y - bgN po yo mk i y nw)))), (0, .ref (am 0)), (1, .int (nI i)), (2, .int (nI y))]) E d_Mo_most_38 (by decide) rfl ?_
  refine g_iconst (v := nI 1) E d_Mo_most_40 (by decide) ?_
  refine g_istore (lv' := [(6, .int (nI 1)), (5, .int (nI 0)), (3, .long (lN (16 ^ (y - bgN po yo mk i y nw)))), (0, .ref (am 0)), (1, .int (nI i)), (2, .int (nI y))]) E d_Mo_most_41 (by decide) rfl ?_
  refine g_lv [0, 1, 3, 4, 5] rfl ?_
  refine gloop (α := Nat × Nat) (fun a_ => gW V _ _ (wM V am 0 nY ix bu np st sr go ca nw yo ce wo po ne sv cl mk bg dp ((lrn go sr po yo mk nw i y (sh, nx)).1) ((lrn go sr po yo mk nw i y (sh, nx)).2) spn)) (fun a_ => [(6, .int (nI (a_.1 + 1))), (5, .int (nI a_.2)), (0, .ref (am 0)), (1, .int (nI i)), (2, .int (nI y))]) (fun a_ => a_.1 + 1 ≤ st i ∧ a_.2 = grS (lrn go sr po yo mk nw i y (sh, nx)).1 a_.1) (fun a_ => st i - a_.1) (0, 0) (⟨by (try dsimp only); omega, rfl⟩) ?_
  rintro ⟨t, g⟩ hI_43 ih_43
  try dsimp only at hI_43 ih_43 ⊢
  refine g_iload E d_Mo_most_43 0 rfl ?_
  refine g_aload_n E d_Mo_most_45 rfl 2 rfl ?_
  refine gf_Mo_16 E gO_w 0 rfl rfl d_Mo_most_46 ?_
  refine g_iload_n E d_Mo_most_49 rfl 3 rfl ?_
  refine g_ldN E gO_w 3 rfl (by omega) (by decide) d_Mo_most_50 ?_
  refine g_ncmp_ge E 87 d_Mo_most_51 (by decide) (by omega) (by omega) (fun h4 => ?_) (fun h4 => ?_)
  · refine g_iload E d_Mo_most_87 1 rfl ?_
    exact g_iret E hr hlk d_Mo_most_89 (gq_wi (w1 := fun _ => wM V am 0 nY ix bu np st sr go ca nw yo ce wo po ne sv cl mk bg dp ((lrn go sr po yo mk nw i y (sh, nx)).1) ((lrn go sr po yo mk nw i y (sh, nx)).2) spn) () (by rw [hI_43.2, show t = st i - 1 by omega]))
  · have g1 := grS_le (lrn go sr po yo mk nw i y (sh, nx)).1 t
    rw [← hI_43.2] at g1
    have g2 := hb (t + 1) (by omega)
    have g3 := hb g (by omega)
    refine g_aload_n E d_Mo_most_54 rfl 2 rfl ?_
    refine gf_Mo_50 E gO_w 0 rfl rfl d_Mo_most_55 ?_
    refine g_iload E d_Mo_most_58 0 rfl ?_
    refine g_ldL E gO_w 14 rfl (by omega) (by decide) d_Mo_most_60 ?_
    refine g_aload_n E d_Mo_most_61 rfl 2 rfl ?_
    refine gf_Mo_50 E gO_w 0 rfl rfl d_Mo_most_62 ?_
    refine g_iload E d_Mo_most_65 1 rfl ?_
    refine g_ldL E gO_w 14 rfl (by omega) (by decide) d_Mo_most_67 ?_
    refine g_lcmp E d_Mo_most_68 ?_
    refine g_if_lt E 77 d_Mo_most_69 (by decide) (fun h5 => ?_) (fun h5 => ?_)
    · rw [lg_lt, pk_lLT (by omega) (by omega)] at h5
      refine g_iload E d_Mo_most_77 1 rfl ?_
      refine g_istore (lv' := [(5, .int (nI g)), (6, .int (nI (t + 1))), (0, .ref (am 0)), (1, .int (nI i)), (2, .int (nI y))]) E d_Mo_most_79 (by decide) rfl ?_
      refine g_iinc (lv' := [(6, .int (nI ((t + 1) + 1))), (5, .int (nI g)), (0, .ref (am 0)), (1, .int (nI i)), (2, .int (nI y))]) E d_Mo_most_81 1 rfl (nI_inc _) (by decide) rfl ?_
      refine g_goto E 43 d_Mo_most_84 (by decide) ?_
      refine g_lv [0, 1, 2, 3, 4] rfl ?_
      exact ih_43 (t + 1, g) (⟨by (try dsimp only); omega, by (try dsimp only); rw [grS, ← hI_43.2]; simp [h5]; try omega⟩) (by (try dsimp only); omega)
    · rw [lg_lt, pk_lLT (by omega) (by omega)] at h5
      refine g_iload E d_Mo_most_72 0 rfl ?_
      refine g_goto E 79 d_Mo_most_74 (by decide) ?_
      refine g_istore (lv' := [(5, .int (nI (t + 1))), (6, .int (nI (t + 1))), (0, .ref (am 0)), (1, .int (nI i)), (2, .int (nI y))]) E d_Mo_most_79 (by decide) rfl ?_
      refine g_iinc (lv' := [(6, .int (nI ((t + 1) + 1))), (5, .int (nI (t + 1))), (0, .ref (am 0)), (1, .int (nI i)), (2, .int (nI y))]) E d_Mo_most_81 1 rfl (nI_inc _) (by decide) rfl ?_
      refine g_goto E 43 d_Mo_most_84 (by decide) ?_
      refine g_lv [0, 1, 2, 3, 4] rfl ?_
      exact ih_43 (t + 1, t + 1) (⟨by (try dsimp only); omega, by (try dsimp only); rw [grS, ← hI_43.2]; simp [h5]; try omega⟩) (by (try dsimp only); omega)

set_option maxHeartbeats 4000000 in
set_option maxRecDepth 100000 in
theorem C_Mo_work_n (l : Launch) {V : gV} {am : Nat → Nat} {th nY : Nat} {ix bu : Nat → Nat} {np : Nat} {st sr go ca : Nat → Nat} {nw : Nat} {yo ce wo : Nat → Nat} {po ne : Nat → Option Nat} {sv : Nat → Nat} {cl : Nat → Bool} {mk bg dp : Nat} {sh nx : Nat → Nat} {spn : Int} (y k v : Nat)  (hy : y < nY) (hY : nY ≤ 12) (h1 : 1 ≤ k) (h2 : k ≤ 1000000) (h3 : v ≤ 1000000) (hnw : nw < 10) : mWi l y_Mo_work (w_Mo_work :: gt) rm_Mo_work V (wM V am th nY ix bu np st sr go ca nw yo ce wo po ne sv cl mk bg dp sh nx spn) [.ref (am 0), .int (nI y), .int (nI k), .int (nI v), .int (oN none)] (nI nw) (wM V am 0 nY ix bu np st sr go ca (nw + 1) (va_up yo nw y) (va_up ce nw k) (va_up wo nw v) (va_up po nw none) (va_up ne nw none) sv cl mk bg dp sh nx spn) 0 0 := by
  intro sz
  refine gMet (V := V) (As := [.ref (am 0), .int (nI y), .int (nI k), .int (nI v), .int (oN none)]) (cc := c_Mo_work) (maxL := 6) (ret := (some .int)) (by decide) rfl (Nat.le_of_ble_eq_true rfl) (fun a U h => ⟨h.1, h.2.2.2.1⟩) ?_
  intro p e s m below meth c E hr hlk hnm hv
  refine g_toW (sz := sz) (w := wM V am th nY ix bu np st sr go ca nw yo ce wo po ne sv cl mk bg dp sh nx spn) hv.2.2.1 hv.2.2.2.2 ?_
  have hA0 : ∀ q : Nat, s.heap.size ≤ q → va_A (wM V am th nY ix bu np st sr go ca nw yo ce wo po ne sv cl mk bg dp sh nx spn) sz q := fun q h => Or.inr (by rw [← hv.2.1]; exact h)
  refine g_aload_n E d_Mo_work_0 rfl 0 rfl ?_
  refine g_iload_n E d_Mo_work_1 rfl 1 rfl ?_
  refine gpVi (As := [.int (nI y)]) (rest := []) E gO_w 0 rfl rfl (C_Mo_isYear l (nI y) (by omega)) (cs_Mo_78 E rfl rfl ⟨Nat.le_of_ble_eq_true rfl, Nat.le_of_ble_eq_true rfl⟩) rfl rfl (Nat.le_of_ble_eq_true rfl) ⟨Nat.zero_le _, Nat.zero_le _⟩ d_Mo_work_2 ?_
  refine g_topi (show bI _ = nI 1 from by rw [inR_y (by omega) (by omega)]; rfl) ?_
  refine g_nif_eq E 51 d_Mo_work_5 (by decide) (by decide) (fun h1 => absurd h1 (by decide)) (fun _ => ?_)
  refine g_iload_n E d_Mo_work_8 rfl 2 rfl ?_
  refine g_i2l E d_Mo_work_9 ?_
  refine g_topl (nI_l (by omega)) ?_
  refine g_lconst (v := lN 1) E d_Mo_work_10 (by decide) ?_
  refine g_ldc2 E kk_Mo_119 d_Mo_work_11 ?_
  refine g_topl (show ((1000000) : Int64) = lN 1000000 from by decide) ?_
  refine gpSi (As := [.long (lN k), .long (lN 1), .long (lN 1000000)]) (rest := []) E gO_w (C_Mo_within l (lN k) (lN 1) (lN 1000000)) (cs_Mo_64 E rfl rfl ⟨Nat.le_of_ble_eq_true rfl, Nat.le_of_ble_eq_true rfl⟩) rfl rfl (Nat.le_of_ble_eq_true rfl) ⟨Nat.zero_le _, Nat.zero_le _⟩ d_Mo_work_14 ?_
  refine g_topi (congrArg bI (inBL_N (by omega) (by omega) (by omega))) ?_
  refine g_topi (show bI _ = nI 1 from by rw [inB_y (by omega) (by omega) (by omega)]; rfl) ?_
  refine g_nif_eq E 51 d_Mo_work_17 (by decide) (by decide) (fun h2 => absurd h2 (by decide)) (fun _ => ?_)
  refine g_iload_n E d_Mo_work_20 rfl 3 rfl ?_
  refine g_i2l E d_Mo_work_21 ?_
  refine g_topl (nI_l (by omega)) ?_
  refine g_lconst (v := lN 0) E d_Mo_work_22 (by decide) ?_
  refine g_ldc2 E kk_Mo_119 d_Mo_work_23 ?_
  refine g_topl (show ((1000000) : Int64) = lN 1000000 from by decide) ?_
  refine gpSi (As := [.long (lN v), .long (lN 0), .long (lN 1000000)]) (rest := []) E gO_w (C_Mo_within l (lN v) (lN 0) (lN 1000000)) (cs_Mo_64 E rfl rfl ⟨Nat.le_of_ble_eq_true rfl, Nat.le_of_ble_eq_true rfl⟩) rfl rfl (Nat.le_of_ble_eq_true rfl) ⟨Nat.zero_le _, Nat.zero_le _⟩ d_Mo_work_26 ?_
  refine g_topi (congrArg bI (inBL_N (by omega) (by omega) (by omega))) ?_
  refine g_topi (show bI _ = nI 1 from by rw [inB_y (by omega) (by omega) (by omega)]; rfl) ?_
  refine g_nif_eq E 51 d_Mo_work_29 (by decide) (by decide) (fun h3 => absurd h3 (by decide)) (fun _ => ?_)
  refine g_iload E d_Mo_work_32 4 rfl ?_
  refine g_iconst (v := oN none) E d_Mo_work_34 (by decide) ?_
  refine g_icmp_eq E 47 d_Mo_work_35 (by decide) (fun h4 => ?_) (fun h4 => ?_)
  · refine g_iconst (v := nI 1) E d_Mo_work_47 (by decide) ?_
    refine g_goto E 52 d_Mo_work_48 (by decide) ?_
    refine g_istore (lv' := [(5, .int (nI 1)), (0, .ref (am 0)), (1, .int (nI y)), (2, .int (nI k)), (3, .int (nI v)), (4, .int (oN none))]) E d_Mo_work_52 (by decide) rfl ?_
    refine g_aload_n E d_Mo_work_54 rfl 1 rfl ?_
    refine g_iload E d_Mo_work_55 0 rfl ?_
    refine g_nif_ne E 64 d_Mo_work_57 (by decide) (by decide) (fun _ => ?_) (fun h5 => absurd h5 (by decide))
    refine g_aload_n E d_Mo_work_64 rfl 1 rfl ?_
    refine gf_Mo_75 E gO_w 0 rfl rfl d_Mo_work_65 ?_
    refine g_bipush (v := nI 10) E d_Mo_work_68 (by decide) ?_
    refine g_ncmp_ne E 77 d_Mo_work_70 (by decide) (by omega) (by omega) (fun h6 => ?_) (fun h6 => ?_)
    · refine g_iconst (v := nI 0) E d_Mo_work_77 (by decide) ?_
      refine gwVi (As := [.int (nI 0)]) (rest := []) (w' := wM V am 0 nY ix bu np st sr go ca nw yo ce wo po ne sv cl mk bg dp sh nx spn) (mc := 0) (ms := 0) E hA0 0 rfl rfl (C_Mo_refuses_0 l) (cs_Mo_85 E rfl rfl ⟨Nat.le_of_ble_eq_true rfl, Nat.le_of_ble_eq_true rfl⟩) rfl rfl (Nat.le_of_ble_eq_true rfl) ⟨Nat.zero_le _, Nat.zero_le _⟩ d_Mo_work_78 ?_
      refine g_nif_eq E 86 d_Mo_work_81 (by decide) (by decide) (fun _ => ?_) (fun h7 => absurd h7 (by decide))
      refine g_aload_n E d_Mo_work_86 rfl 1 rfl ?_
      refine gf_Mo_28 E gO_w 0 rfl rfl d_Mo_work_87 ?_
      refine g_aload_n E d_Mo_work_90 rfl 1 rfl ?_
      refine gf_Mo_75 E gO_w 0 rfl rfl d_Mo_work_91 ?_
      refine g_iload_n E d_Mo_work_94 rfl 2 rfl ?_
      refine g_stN (ws' := wM V am 0 nY ix bu np st sr go ca nw (va_up yo nw y) ce wo po ne sv cl mk bg dp sh nx spn) E 7 rfl (by omega) (by decide) rfl d_Mo_work_95 ?_
      refine g_aload_n E d_Mo_work_96 rfl 1 rfl ?_
      refine gf_Mo_31 E gO_w 0 rfl rfl d_Mo_work_97 ?_
      refine g_aload_n E d_Mo_work_100 rfl 1 rfl ?_
      refine gf_Mo_75 E gO_w 0 rfl rfl d_Mo_work_101 ?_
      refine g_iload_n E d_Mo_work_104 rfl 3 rfl ?_
      refine g_stN (ws' := wM V am 0 nY ix bu np st sr go ca nw (va_up yo nw y) (va_up ce nw k) wo po ne sv cl mk bg dp sh nx spn) E 8 rfl (by omega) (by decide) rfl d_Mo_work_105 ?_
      refine g_aload_n E d_Mo_work_106 rfl 1 rfl ?_
      refine gf_Mo_34 E gO_w 0 rfl rfl d_Mo_work_107 ?_
      refine g_aload_n E d_Mo_work_110 rfl 1 rfl ?_
      refine gf_Mo_75 E gO_w 0 rfl rfl d_Mo_work_111 ?_
      refine g_iload_n E d_Mo_work_114 rfl 4 rfl ?_
      refine g_stN (ws' := wM V am 0 nY ix bu np st sr go ca nw (va_up yo nw y) (va_up ce nw k) (va_up wo nw v) po ne sv cl mk bg dp sh nx spn) E 9 rfl (by omega) (by decide) rfl d_Mo_work_115 ?_
      refine g_aload_n E d_Mo_work_116 rfl 1 rfl ?_
      refine gf_Mo_37 E gO_w 0 rfl rfl d_Mo_work_117 ?_
      refine g_aload_n E d_Mo_work_120 rfl 1 rfl ?_
      refine gf_Mo_75 E gO_w 0 rfl rfl d_Mo_work_121 ?_
      refine g_iload E d_Mo_work_124 5 rfl ?_
      refine g_stO (ws' := wM V am 0 nY ix bu np st sr go ca nw (va_up yo nw y) (va_up ce nw k) (va_up wo nw v) (va_up po nw none) ne sv cl mk bg dp sh nx spn) E 10 rfl (by omega) (by decide) rfl d_Mo_work_126 ?_
      refine g_aload_n E d_Mo_work_127 rfl 1 rfl ?_
      refine gf_Mo_40 E gO_w 0 rfl rfl d_Mo_work_128 ?_
      refine g_aload_n E d_Mo_work_131 rfl 1 rfl ?_
      refine gf_Mo_75 E gO_w 0 rfl rfl d_Mo_work_132 ?_
      refine g_iconst (v := oN none) E d_Mo_work_135 (by decide) ?_
      refine g_stO (ws' := wM V am 0 nY ix bu np st sr go ca nw (va_up yo nw y) (va_up ce nw k) (va_up wo nw v) (va_up po nw none) (va_up ne nw none) sv cl mk bg dp sh nx spn) E 11 rfl (by omega) (by decide) rfl d_Mo_work_136 ?_
      refine g_aload_n E d_Mo_work_137 rfl 1 rfl ?_
      refine g_dup E d_Mo_work_138 rfl ?_
      refine gf_Mo_75 E gO_w 0 rfl rfl d_Mo_work_139 ?_
      refine g_iconst (v := nI 1) E d_Mo_work_142 (by decide) ?_
      refine g_iadd E d_Mo_work_143 ?_
      refine g_topi (nI_add _ _) ?_
      refine pf_Mo_75 (ws' := wM V am 0 nY ix bu np st sr go ca (nw + 1) (va_up yo nw y) (va_up ce nw k) (va_up wo nw v) (va_up po nw none) (va_up ne nw none) sv cl mk bg dp sh nx spn) E 0 rfl rfl rfl (Nat.le_of_ble_eq_true rfl) rfl d_Mo_work_144 ?_
      refine g_aload_n E d_Mo_work_147 rfl 1 rfl ?_
      refine gf_Mo_75 E gO_w 0 rfl rfl d_Mo_work_148 ?_
      refine g_iconst (v := nI 1) E d_Mo_work_151 (by decide) ?_
      refine g_isub E d_Mo_work_152 ?_
      refine g_topi (pk_sub (by omega)) ?_
      exact g_iret E hr hlk d_Mo_work_153 (gq_wi (w1 := fun _ => wM V am 0 nY ix bu np st sr go ca (nw + 1) (va_up yo nw y) (va_up ce nw k) (va_up wo nw v) (va_up po nw none) (va_up ne nw none) sv cl mk bg dp sh nx spn) () (rfl))
    · exact absurd h6 (by omega)
  · exact absurd rfl h4

set_option maxHeartbeats 4000000 in
set_option maxRecDepth 100000 in
theorem C_Mo_work_s (l : Launch) {V : gV} {am : Nat → Nat} {th nY : Nat} {ix bu : Nat → Nat} {np : Nat} {st sr go ca : Nat → Nat} {nw : Nat} {yo ce wo : Nat → Nat} {po ne : Nat → Option Nat} {sv : Nat → Nat} {cl : Nat → Bool} {mk bg dp : Nat} {sh nx : Nat → Nat} {spn : Int} (y k v : Nat) (q : Nat) (hq : q < np) (hnp : np ≤ 12) (hy : y < nY) (hY : nY ≤ 12) (h1 : 1 ≤ k) (h2 : k ≤ 1000000) (h3 : v ≤ 1000000) (hnw : nw < 10) : mWi l y_Mo_work (w_Mo_work :: gt) rm_Mo_work V (wM V am th nY ix bu np st sr go ca nw yo ce wo po ne sv cl mk bg dp sh nx spn) [.ref (am 0), .int (nI y), .int (nI k), .int (nI v), .int (nI q)] (nI nw) (wM V am 0 nY ix bu np st sr go ca (nw + 1) (va_up yo nw y) (va_up ce nw k) (va_up wo nw v) (va_up po nw (some q)) (va_up ne nw none) sv cl mk bg dp sh nx spn) 0 0 := by
  intro sz
  refine gMet (V := V) (As := [.ref (am 0), .int (nI y), .int (nI k), .int (nI v), .int (nI q)]) (cc := c_Mo_work) (maxL := 6) (ret := (some .int)) (by decide) rfl (Nat.le_of_ble_eq_true rfl) (fun a U h => ⟨h.1, h.2.2.2.1⟩) ?_
  intro p e s m below meth c E hr hlk hnm hv
  refine g_toW (sz := sz) (w := wM V am th nY ix bu np st sr go ca nw yo ce wo po ne sv cl mk bg dp sh nx spn) hv.2.2.1 hv.2.2.2.2 ?_
  have hA0 : ∀ q : Nat, s.heap.size ≤ q → va_A (wM V am th nY ix bu np st sr go ca nw yo ce wo po ne sv cl mk bg dp sh nx spn) sz q := fun q h => Or.inr (by rw [← hv.2.1]; exact h)
  refine g_aload_n E d_Mo_work_0 rfl 0 rfl ?_
  refine g_iload_n E d_Mo_work_1 rfl 1 rfl ?_
  refine gpVi (As := [.int (nI y)]) (rest := []) E gO_w 0 rfl rfl (C_Mo_isYear l (nI y) (by omega)) (cs_Mo_78 E rfl rfl ⟨Nat.le_of_ble_eq_true rfl, Nat.le_of_ble_eq_true rfl⟩) rfl rfl (Nat.le_of_ble_eq_true rfl) ⟨Nat.zero_le _, Nat.zero_le _⟩ d_Mo_work_2 ?_
  refine g_topi (show bI _ = nI 1 from by rw [inR_y (by omega) (by omega)]; rfl) ?_
  refine g_nif_eq E 51 d_Mo_work_5 (by decide) (by decide) (fun h1 => absurd h1 (by decide)) (fun _ => ?_)
  refine g_iload_n E d_Mo_work_8 rfl 2 rfl ?_
  refine g_i2l E d_Mo_work_9 ?_
  refine g_topl (nI_l (by omega)) ?_
  refine g_lconst (v := lN 1) E d_Mo_work_10 (by decide) ?_
  refine g_ldc2 E kk_Mo_119 d_Mo_work_11 ?_
  refine g_topl (show ((1000000) : Int64) = lN 1000000 from by decide) ?_
  refine gpSi (As := [.long (lN k), .long (lN 1), .long (lN 1000000)]) (rest := []) E gO_w (C_Mo_within l (lN k) (lN 1) (lN 1000000)) (cs_Mo_64 E rfl rfl ⟨Nat.le_of_ble_eq_true rfl, Nat.le_of_ble_eq_true rfl⟩) rfl rfl (Nat.le_of_ble_eq_true rfl) ⟨Nat.zero_le _, Nat.zero_le _⟩ d_Mo_work_14 ?_
  refine g_topi (congrArg bI (inBL_N (by omega) (by omega) (by omega))) ?_
  refine g_topi (show bI _ = nI 1 from by rw [inB_y (by omega) (by omega) (by omega)]; rfl) ?_
  refine g_nif_eq E 51 d_Mo_work_17 (by decide) (by decide) (fun h2 => absurd h2 (by decide)) (fun _ => ?_)
  refine g_iload_n E d_Mo_work_20 rfl 3 rfl ?_
  refine g_i2l E d_Mo_work_21 ?_
  refine g_topl (nI_l (by omega)) ?_
  refine g_lconst (v := lN 0) E d_Mo_work_22 (by decide) ?_
  refine g_ldc2 E kk_Mo_119 d_Mo_work_23 ?_
  refine g_topl (show ((1000000) : Int64) = lN 1000000 from by decide) ?_
  refine gpSi (As := [.long (lN v), .long (lN 0), .long (lN 1000000)]) (rest := []) E gO_w (C_Mo_within l (lN v) (lN 0) (lN 1000000)) (cs_Mo_64 E rfl rfl ⟨Nat.le_of_ble_eq_true rfl, Nat.le_of_ble_eq_true rfl⟩) rfl rfl (Nat.le_of_ble_eq_true rfl) ⟨Nat.zero_le _, Nat.zero_le _⟩ d_Mo_work_26 ?_
  refine g_topi (congrArg bI (inBL_N (by omega) (by omega) (by omega))) ?_
  refine g_topi (show bI _ = nI 1 from by rw [inB_y (by omega) (by omega) (by omega)]; rfl) ?_
  refine g_nif_eq E 51 d_Mo_work_29 (by decide) (by decide) (fun h3 => absurd h3 (by decide)) (fun _ => ?_)
  refine g_iload E d_Mo_work_32 4 rfl ?_
  refine g_iconst (v := oN none) E d_Mo_work_34 (by decide) ?_
  refine g_icmp_eq E 47 d_Mo_work_35 (by decide) (fun h4 => ?_) (fun h4 => ?_)
  · exact absurd h4 (by intro z; have := congrArg Int32.toInt z; rw [nI_toInt (by omega)] at this; have h2 : (oN none).toInt = -1 := (by decide); omega)
  · refine g_aload_n E d_Mo_work_38 rfl 0 rfl ?_
    refine g_iload E d_Mo_work_39 4 rfl ?_
    refine gpVi (As := [.int (nI q)]) (rest := []) E gO_w 0 rfl rfl (C_Mo_isPart l (nI q) (by omega)) (cs_Mo_71 E rfl rfl ⟨Nat.le_of_ble_eq_true rfl, Nat.le_of_ble_eq_true rfl⟩) rfl rfl (Nat.le_of_ble_eq_true rfl) ⟨Nat.zero_le _, Nat.zero_le _⟩ d_Mo_work_41 ?_
    refine g_topi (show bI _ = nI 1 from by rw [inR_y (by omega) (by omega)]; rfl) ?_
    refine g_nif_eq E 51 d_Mo_work_44 (by decide) (by decide) (fun h5 => absurd h5 (by decide)) (fun _ => ?_)
    refine g_iconst (v := nI 1) E d_Mo_work_47 (by decide) ?_
    refine g_goto E 52 d_Mo_work_48 (by decide) ?_
    refine g_istore (lv' := [(5, .int (nI 1)), (0, .ref (am 0)), (1, .int (nI y)), (2, .int (nI k)), (3, .int (nI v)), (4, .int (nI q))]) E d_Mo_work_52 (by decide) rfl ?_
    refine g_aload_n E d_Mo_work_54 rfl 1 rfl ?_
    refine g_iload E d_Mo_work_55 0 rfl ?_
    refine g_nif_ne E 64 d_Mo_work_57 (by decide) (by decide) (fun _ => ?_) (fun h6 => absurd h6 (by decide))
    refine g_aload_n E d_Mo_work_64 rfl 1 rfl ?_
    refine gf_Mo_75 E gO_w 0 rfl rfl d_Mo_work_65 ?_
    refine g_bipush (v := nI 10) E d_Mo_work_68 (by decide) ?_
    refine g_ncmp_ne E 77 d_Mo_work_70 (by decide) (by omega) (by omega) (fun h7 => ?_) (fun h7 => ?_)
    · refine g_iconst (v := nI 0) E d_Mo_work_77 (by decide) ?_
      refine gwVi (As := [.int (nI 0)]) (rest := []) (w' := wM V am 0 nY ix bu np st sr go ca nw yo ce wo po ne sv cl mk bg dp sh nx spn) (mc := 0) (ms := 0) E hA0 0 rfl rfl (C_Mo_refuses_0 l) (cs_Mo_85 E rfl rfl ⟨Nat.le_of_ble_eq_true rfl, Nat.le_of_ble_eq_true rfl⟩) rfl rfl (Nat.le_of_ble_eq_true rfl) ⟨Nat.zero_le _, Nat.zero_le _⟩ d_Mo_work_78 ?_
      refine g_nif_eq E 86 d_Mo_work_81 (by decide) (by decide) (fun _ => ?_) (fun h8 => absurd h8 (by decide))
      refine g_aload_n E d_Mo_work_86 rfl 1 rfl ?_
      refine gf_Mo_28 E gO_w 0 rfl rfl d_Mo_work_87 ?_
      refine g_aload_n E d_Mo_work_90 rfl 1 rfl ?_
      refine gf_Mo_75 E gO_w 0 rfl rfl d_Mo_work_91 ?_
      refine g_iload_n E d_Mo_work_94 rfl 2 rfl ?_
      refine g_stN (ws' := wM V am 0 nY ix bu np st sr go ca nw (va_up yo nw y) ce wo po ne sv cl mk bg dp sh nx spn) E 7 rfl (by omega) (by decide) rfl d_Mo_work_95 ?_
      refine g_aload_n E d_Mo_work_96 rfl 1 rfl ?_
      refine gf_Mo_31 E gO_w 0 rfl rfl d_Mo_work_97 ?_
      refine g_aload_n E d_Mo_work_100 rfl 1 rfl ?_
      refine gf_Mo_75 E gO_w 0 rfl rfl d_Mo_work_101 ?_
      refine g_iload_n E d_Mo_work_104 rfl 3 rfl ?_
      refine g_stN (ws' := wM V am 0 nY ix bu np st sr go ca nw (va_up yo nw y) (va_up ce nw k) wo po ne sv cl mk bg dp sh nx spn) E 8 rfl (by omega) (by decide) rfl d_Mo_work_105 ?_
      refine g_aload_n E d_Mo_work_106 rfl 1 rfl ?_
      refine gf_Mo_34 E gO_w 0 rfl rfl d_Mo_work_107 ?_
      refine g_aload_n E d_Mo_work_110 rfl 1 rfl ?_
      refine gf_Mo_75 E gO_w 0 rfl rfl d_Mo_work_111 ?_
      refine g_iload_n E d_Mo_work_114 rfl 4 rfl ?_
      refine g_stN (ws' := wM V am 0 nY ix bu np st sr go ca nw (va_up yo nw y) (va_up ce nw k) (va_up wo nw v) po ne sv cl mk bg dp sh nx spn) E 9 rfl (by omega) (by decide) rfl d_Mo_work_115 ?_
      refine g_aload_n E d_Mo_work_116 rfl 1 rfl ?_
      refine gf_Mo_37 E gO_w 0 rfl rfl d_Mo_work_117 ?_
      refine g_aload_n E d_Mo_work_120 rfl 1 rfl ?_
      refine gf_Mo_75 E gO_w 0 rfl rfl d_Mo_work_121 ?_
      refine g_iload E d_Mo_work_124 5 rfl ?_
      refine g_topi (show nI q = oN (some q) from rfl) ?_
      refine g_stO (ws' := wM V am 0 nY ix bu np st sr go ca nw (va_up yo nw y) (va_up ce nw k) (va_up wo nw v) (va_up po nw (some q)) ne sv cl mk bg dp sh nx spn) E 10 rfl (by omega) (by decide) rfl d_Mo_work_126 ?_
      refine g_aload_n E d_Mo_work_127 rfl 1 rfl ?_
      refine gf_Mo_40 E gO_w 0 rfl rfl d_Mo_work_128 ?_
      refine g_aload_n E d_Mo_work_131 rfl 1 rfl ?_
      refine gf_Mo_75 E gO_w 0 rfl rfl d_Mo_work_132 ?_
      refine g_iconst (v := oN none) E d_Mo_work_135 (by decide) ?_
      refine g_stO (ws' := wM V am 0 nY ix bu np st sr go ca nw (va_up yo nw y) (va_up ce nw k) (va_up wo nw v) (va_up po nw (some q)) (va_up ne nw none) sv cl mk bg dp sh nx spn) E 11 rfl (by omega) (by decide) rfl d_Mo_work_136 ?_
      refine g_aload_n E d_Mo_work_137 rfl 1 rfl ?_
      refine g_dup E d_Mo_work_138 rfl ?_
      refine gf_Mo_75 E gO_w 0 rfl rfl d_Mo_work_139 ?_
      refine g_iconst (v := nI 1) E d_Mo_work_142 (by decide) ?_
      refine g_iadd E d_Mo_work_143 ?_
      refine g_topi (nI_add _ _) ?_
      refine pf_Mo_75 (ws' := wM V am 0 nY ix bu np st sr go ca (nw + 1) (va_up yo nw y) (va_up ce nw k) (va_up wo nw v) (va_up po nw (some q)) (va_up ne nw none) sv cl mk bg dp sh nx spn) E 0 rfl rfl rfl (Nat.le_of_ble_eq_true rfl) rfl d_Mo_work_144 ?_
      refine g_aload_n E d_Mo_work_147 rfl 1 rfl ?_
      refine gf_Mo_75 E gO_w 0 rfl rfl d_Mo_work_148 ?_
      refine g_iconst (v := nI 1) E d_Mo_work_151 (by decide) ?_
      refine g_isub E d_Mo_work_152 ?_
      refine g_topi (pk_sub (by omega)) ?_
      exact g_iret E hr hlk d_Mo_work_153 (gq_wi (w1 := fun _ => wM V am 0 nY ix bu np st sr go ca (nw + 1) (va_up yo nw y) (va_up ce nw k) (va_up wo nw v) (va_up po nw (some q)) (va_up ne nw none) sv cl mk bg dp sh nx spn) () (rfl))
    · exact absurd h7 (by omega)

set_option maxHeartbeats 4000000 in
set_option maxRecDepth 100000 in
theorem C_Mo_join (l : Launch) {V : gV} {am : Nat → Nat} {th nY : Nat} {ix bu : Nat → Nat} {np : Nat} {st sr go ca : Nat → Nat} {nw : Nat} {yo ce wo : Nat → Nat} {po ne : Nat → Option Nat} {sv : Nat → Nat} {cl : Nat → Bool} {mk bg dp : Nat} {sh nx : Nat → Nat} {spn : Int} (a b v : Nat) (ha : a < nw) (hb : b < nw) (hab : a ≠ b) (hnw : nw ≤ 10) (h2 : v ≤ 1000000) : mWi l y_Mo_join (w_Mo_join :: gt) rm_Mo_join V (wM V am th nY ix bu np st sr go ca nw yo ce wo po ne sv cl mk bg dp sh nx spn) [.ref (am 0), .int (nI a), .int (nI b), .int (nI v)] (nI (sv (10 * a + b))) (wM V am 0 nY ix bu np st sr go ca nw yo ce wo po ne (va_up (va_up sv (10 * a + b) v) (10 * b + a) v) cl mk bg dp sh nx spn) 0 0 := by
  intro sz
  refine gMet (V := V) (As := [.ref (am 0), .int (nI a), .int (nI b), .int (nI v)]) (cc := c_Mo_join) (maxL := 5) (ret := (some .int)) (by decide) rfl (Nat.le_of_ble_eq_true rfl) (fun a U h => ⟨h.1, h.2.2.2.1⟩) ?_
  intro p e s m below meth c E hr hlk hnm hv
  refine g_toW (sz := sz) (w := wM V am th nY ix bu np st sr go ca nw yo ce wo po ne sv cl mk bg dp sh nx spn) hv.2.2.1 hv.2.2.2.2 ?_
  have hA0 : ∀ q : Nat, s.heap.size ≤ q → va_A (wM V am th nY ix bu np st sr go ca nw yo ce wo po ne sv cl mk bg dp sh nx spn) sz q := fun q h => Or.inr (by rw [← hv.2.1]; exact h)
  refine g_aload_n E d_Mo_join_0 rfl 0 rfl ?_
  refine g_aload_n E d_Mo_join_1 rfl 0 rfl ?_
  refine g_iload_n E d_Mo_join_2 rfl 1 rfl ?_
  refine g_iload_n E d_Mo_join_3 rfl 2 rfl ?_
  refine gpVi (As := [.int (nI a), .int (nI b)]) (rest := [.ref (am 0)]) E gO_w 0 rfl rfl (C_Mo_areTwo l (nI a) (nI b) (by omega)) (cs_Mo_124 E rfl rfl ⟨Nat.le_of_ble_eq_true rfl, Nat.le_of_ble_eq_true rfl⟩) rfl rfl (Nat.le_of_ble_eq_true rfl) ⟨Nat.zero_le _, Nat.zero_le _⟩ d_Mo_join_4 ?_
  refine g_topi (show bI _ = nI 1 from by rw [twoW_y (by omega) (by omega) (by omega) (by omega)]; rfl) ?_
  refine g_nif_eq E 26 d_Mo_join_7 (by decide) (by decide) (fun h1 => absurd h1 (by decide)) (fun _ => ?_)
  refine g_iload_n E d_Mo_join_10 rfl 3 rfl ?_
  refine g_i2l E d_Mo_join_11 ?_
  refine g_topl (nI_l (by omega)) ?_
  refine g_lconst (v := lN 0) E d_Mo_join_12 (by decide) ?_
  refine g_ldc2 E kk_Mo_119 d_Mo_join_13 ?_
  refine g_topl (show ((1000000) : Int64) = lN 1000000 from by decide) ?_
  refine gpSi (As := [.long (lN v), .long (lN 0), .long (lN 1000000)]) (rest := [.ref (am 0)]) E gO_w (C_Mo_within l (lN v) (lN 0) (lN 1000000)) (cs_Mo_64 E rfl rfl ⟨Nat.le_of_ble_eq_true rfl, Nat.le_of_ble_eq_true rfl⟩) rfl rfl (Nat.le_of_ble_eq_true rfl) ⟨Nat.zero_le _, Nat.zero_le _⟩ d_Mo_join_16 ?_
  refine g_topi (congrArg bI (inBL_N (by omega) (by omega) (by omega))) ?_
  refine g_topi (show bI _ = nI 1 from by rw [inB_y (by omega) (by omega) (by omega)]; rfl) ?_
  refine g_nif_eq E 26 d_Mo_join_19 (by decide) (by decide) (fun h2 => absurd h2 (by decide)) (fun _ => ?_)
  refine g_iconst (v := nI 0) E d_Mo_join_22 (by decide) ?_
  refine g_goto E 27 d_Mo_join_23 (by decide) ?_
  refine gwVi (As := [.int (nI 0)]) (rest := []) (w' := wM V am 0 nY ix bu np st sr go ca nw yo ce wo po ne sv cl mk bg dp sh nx spn) (mc := 0) (ms := 0) E hA0 0 rfl rfl (C_Mo_refuses_0 l) (cs_Mo_85 E rfl rfl ⟨Nat.le_of_ble_eq_true rfl, Nat.le_of_ble_eq_true rfl⟩) rfl rfl (Nat.le_of_ble_eq_true rfl) ⟨Nat.zero_le _, Nat.zero_le _⟩ d_Mo_join_27 ?_
  refine g_nif_eq E 35 d_Mo_join_30 (by decide) (by decide) (fun _ => ?_) (fun h3 => absurd h3 (by decide))
  refine g_aload_n E d_Mo_join_35 rfl 0 rfl ?_
  refine gf_Mo_43 E gO_w 0 rfl rfl d_Mo_join_36 ?_
  refine g_bipush (v := nI 10) E d_Mo_join_39 (by decide) ?_
  refine g_iload_n E d_Mo_join_41 rfl 1 rfl ?_
  refine g_imul E d_Mo_join_42 ?_
  refine g_topi (pk_mul _ _) ?_
  refine g_iload_n E d_Mo_join_43 rfl 2 rfl ?_
  refine g_iadd E d_Mo_join_44 ?_
  refine g_topi (nI_add _ _) ?_
  refine g_ldN E gO_w 12 rfl (by omega) (by decide) d_Mo_join_45 ?_
  refine g_istore (lv' := [(4, .int (nI (sv ((10 * a) + b)))), (0, .ref (am 0)), (1, .int (nI a)), (2, .int (nI b)), (3, .int (nI v))]) E d_Mo_join_46 (by decide) rfl ?_
  refine g_aload_n E d_Mo_join_48 rfl 1 rfl ?_
  refine gf_Mo_43 E gO_w 0 rfl rfl d_Mo_join_49 ?_
  refine g_bipush (v := nI 10) E d_Mo_join_52 (by decide) ?_
  refine g_iload_n E d_Mo_join_54 rfl 2 rfl ?_
  refine g_imul E d_Mo_join_55 ?_
  refine g_topi (pk_mul _ _) ?_
  refine g_iload_n E d_Mo_join_56 rfl 3 rfl ?_
  refine g_iadd E d_Mo_join_57 ?_
  refine g_topi (nI_add _ _) ?_
  refine g_iload_n E d_Mo_join_58 rfl 4 rfl ?_
  refine g_stN (ws' := wM V am 0 nY ix bu np st sr go ca nw yo ce wo po ne (va_up sv ((10 * a) + b) v) cl mk bg dp sh nx spn) E 12 rfl (by omega) (by decide) rfl d_Mo_join_59 ?_
  refine g_aload_n E d_Mo_join_60 rfl 1 rfl ?_
  refine gf_Mo_43 E gO_w 0 rfl rfl d_Mo_join_61 ?_
  refine g_bipush (v := nI 10) E d_Mo_join_64 (by decide) ?_
  refine g_iload_n E d_Mo_join_66 rfl 3 rfl ?_
  refine g_imul E d_Mo_join_67 ?_
  refine g_topi (pk_mul _ _) ?_
  refine g_iload_n E d_Mo_join_68 rfl 2 rfl ?_
  refine g_iadd E d_Mo_join_69 ?_
  refine g_topi (nI_add _ _) ?_
  refine g_iload_n E d_Mo_join_70 rfl 4 rfl ?_
  refine g_stN (ws' := wM V am 0 nY ix bu np st sr go ca nw yo ce wo po ne (va_up (va_up sv ((10 * a) + b) v) ((10 * b) + a) v) cl mk bg dp sh nx spn) E 12 rfl (by omega) (by decide) rfl d_Mo_join_71 ?_
  refine g_iload E d_Mo_join_72 0 rfl ?_
  refine g_ws (ws' := wM V am 0 nY ix bu np st sr go ca nw yo ce wo po ne (va_up (va_up sv (10 * a + b) v) (10 * b + a) v) cl mk bg dp sh nx spn) (rfl) ?_
  exact g_iret E hr hlk d_Mo_join_74 (gq_wi (w1 := fun _ => wM V am 0 nY ix bu np st sr go ca nw yo ce wo po ne (va_up (va_up sv (10 * a + b) v) (10 * b + a) v) cl mk bg dp sh nx spn) () (by simp))

set_option maxHeartbeats 4000000 in
set_option maxRecDepth 100000 in
theorem C_Mo_clash (l : Launch) {V : gV} {am : Nat → Nat} {th nY : Nat} {ix bu : Nat → Nat} {np : Nat} {st sr go ca : Nat → Nat} {nw : Nat} {yo ce wo : Nat → Nat} {po ne : Nat → Option Nat} {sv : Nat → Nat} {cl : Nat → Bool} {mk bg dp : Nat} {sh nx : Nat → Nat} {spn : Int} (a b : Nat) (q : Bool) (ha : a < nw) (hb : b < nw) (hab : a ≠ b) (hnw : nw ≤ 10) : mWi l y_Mo_clash (w_Mo_clash :: gt) rm_Mo_clash V (wM V am th nY ix bu np st sr go ca nw yo ce wo po ne sv cl mk bg dp sh nx spn) [.ref (am 0), .int (nI a), .int (nI b), .int (bI q)] (bI (cl (10 * a + b))) (wM V am 0 nY ix bu np st sr go ca nw yo ce wo po ne sv (va_up (va_up cl (10 * a + b) q) (10 * b + a) q) mk bg dp sh nx spn) 0 0 := by
  intro sz
  refine gMet (V := V) (As := [.ref (am 0), .int (nI a), .int (nI b), .int (bI q)]) (cc := c_Mo_clash) (maxL := 5) (ret := (some .boolean)) (by decide) rfl (Nat.le_of_ble_eq_true rfl) (fun a U h => ⟨h.1, h.2.2.2.1⟩) ?_
  intro p e s m below meth c E hr hlk hnm hv
  refine g_toW (sz := sz) (w := wM V am th nY ix bu np st sr go ca nw yo ce wo po ne sv cl mk bg dp sh nx spn) hv.2.2.1 hv.2.2.2.2 ?_
  have hA0 : ∀ q : Nat, s.heap.size ≤ q → va_A (wM V am th nY ix bu np st sr go ca nw yo ce wo po ne sv cl mk bg dp sh nx spn) sz q := fun q h => Or.inr (by rw [← hv.2.1]; exact h)
  refine g_aload_n E d_Mo_clash_0 rfl 0 rfl ?_
  refine g_aload_n E d_Mo_clash_1 rfl 0 rfl ?_
  refine g_iload_n E d_Mo_clash_2 rfl 1 rfl ?_
  refine g_iload_n E d_Mo_clash_3 rfl 2 rfl ?_
  refine gpVi (As := [.int (nI a), .int (nI b)]) (rest := [.ref (am 0)]) E gO_w 0 rfl rfl (C_Mo_areTwo l (nI a) (nI b) (by omega)) (cs_Mo_124 E rfl rfl ⟨Nat.le_of_ble_eq_true rfl, Nat.le_of_ble_eq_true rfl⟩) rfl rfl (Nat.le_of_ble_eq_true rfl) ⟨Nat.zero_le _, Nat.zero_le _⟩ d_Mo_clash_4 ?_
  refine g_topi (show bI _ = nI 1 from by rw [twoW_y (by omega) (by omega) (by omega) (by omega)]; rfl) ?_
  refine g_nif_eq E 14 d_Mo_clash_7 (by decide) (by decide) (fun h1 => absurd h1 (by decide)) (fun _ => ?_)
  refine g_iconst (v := nI 0) E d_Mo_clash_10 (by decide) ?_
  refine g_goto E 15 d_Mo_clash_11 (by decide) ?_
  refine gwVi (As := [.int (nI 0)]) (rest := []) (w' := wM V am 0 nY ix bu np st sr go ca nw yo ce wo po ne sv cl mk bg dp sh nx spn) (mc := 0) (ms := 0) E hA0 0 rfl rfl (C_Mo_refuses_0 l) (cs_Mo_85 E rfl rfl ⟨Nat.le_of_ble_eq_true rfl, Nat.le_of_ble_eq_true rfl⟩) rfl rfl (Nat.le_of_ble_eq_true rfl) ⟨Nat.zero_le _, Nat.zero_le _⟩ d_Mo_clash_15 ?_
  refine g_nif_eq E 23 d_Mo_clash_18 (by decide) (by decide) (fun _ => ?_) (fun h2 => absurd h2 (by decide))
  refine g_aload_n E d_Mo_clash_23 rfl 0 rfl ?_
  refine gf_Mo_46 E gO_w 0 rfl rfl d_Mo_clash_24 ?_
  refine g_bipush (v := nI 10) E d_Mo_clash_27 (by decide) ?_
  refine g_iload_n E d_Mo_clash_29 rfl 1 rfl ?_
  refine g_imul E d_Mo_clash_30 ?_
  refine g_topi (pk_mul _ _) ?_
  refine g_iload_n E d_Mo_clash_31 rfl 2 rfl ?_
  refine g_iadd E d_Mo_clash_32 ?_
  refine g_topi (nI_add _ _) ?_
  refine g_ldB E gO_w 13 rfl (by omega) (by decide) d_Mo_clash_33 ?_
  refine g_istore (lv' := [(4, .int (bI (cl ((10 * a) + b)))), (0, .ref (am 0)), (1, .int (nI a)), (2, .int (nI b)), (3, .int (bI q))]) E d_Mo_clash_34 (by decide) rfl ?_
  refine g_aload_n E d_Mo_clash_36 rfl 1 rfl ?_
  refine gf_Mo_46 E gO_w 0 rfl rfl d_Mo_clash_37 ?_
  refine g_bipush (v := nI 10) E d_Mo_clash_40 (by decide) ?_
  refine g_iload_n E d_Mo_clash_42 rfl 2 rfl ?_
  refine g_imul E d_Mo_clash_43 ?_
  refine g_topi (pk_mul _ _) ?_
  refine g_iload_n E d_Mo_clash_44 rfl 3 rfl ?_
  refine g_iadd E d_Mo_clash_45 ?_
  refine g_topi (nI_add _ _) ?_
  refine g_iload_n E d_Mo_clash_46 rfl 4 rfl ?_
  refine g_stB (ws' := wM V am 0 nY ix bu np st sr go ca nw yo ce wo po ne sv (va_up cl ((10 * a) + b) q) mk bg dp sh nx spn) E 13 rfl (by omega) (by decide) rfl d_Mo_clash_47 ?_
  refine g_aload_n E d_Mo_clash_48 rfl 1 rfl ?_
  refine gf_Mo_46 E gO_w 0 rfl rfl d_Mo_clash_49 ?_
  refine g_bipush (v := nI 10) E d_Mo_clash_52 (by decide) ?_
  refine g_iload_n E d_Mo_clash_54 rfl 3 rfl ?_
  refine g_imul E d_Mo_clash_55 ?_
  refine g_topi (pk_mul _ _) ?_
  refine g_iload_n E d_Mo_clash_56 rfl 2 rfl ?_
  refine g_iadd E d_Mo_clash_57 ?_
  refine g_topi (nI_add _ _) ?_
  refine g_iload_n E d_Mo_clash_58 rfl 4 rfl ?_
  refine g_stB (ws' := wM V am 0 nY ix bu np st sr go ca nw yo ce wo po ne sv (va_up (va_up cl ((10 * a) + b) q) ((10 * b) + a) q) mk bg dp sh nx spn) E 13 rfl (by omega) (by decide) rfl d_Mo_clash_59 ?_
  refine g_iload E d_Mo_clash_60 0 rfl ?_
  refine g_ws (ws' := wM V am 0 nY ix bu np st sr go ca nw yo ce wo po ne sv (va_up (va_up cl (10 * a + b) q) (10 * b + a) q) mk bg dp sh nx spn) (rfl) ?_
  exact g_zret E hr hlk d_Mo_clash_62 (bI_01 _) (gq_wi (w1 := fun _ => wM V am 0 nY ix bu np st sr go ca nw yo ce wo po ne sv (va_up (va_up cl (10 * a + b) q) (10 * b + a) q) mk bg dp sh nx spn) () (by simp))

set_option maxHeartbeats 4000000 in
set_option maxRecDepth 100000 in
theorem C_Mo_needs_n (l : Launch) {V : gV} {am : Nat → Nat} {th nY : Nat} {ix bu : Nat → Nat} {np : Nat} {st sr go ca : Nat → Nat} {nw : Nat} {yo ce wo : Nat → Nat} {po ne : Nat → Option Nat} {sv : Nat → Nat} {cl : Nat → Bool} {mk bg dp : Nat} {sh nx : Nat → Nat} {spn : Int} (a : Nat)  (ha : a < nw) (hnw : nw ≤ 10) : mWi l y_Mo_needs (w_Mo_needs :: gt) rm_Mo_needs V (wM V am th nY ix bu np st sr go ca nw yo ce wo po ne sv cl mk bg dp sh nx spn) [.ref (am 0), .int (nI a), .int (oN none)] (oN (ne a)) (wM V am 0 nY ix bu np st sr go ca nw yo ce wo po (va_up ne a none) sv cl mk bg dp sh nx spn) 0 0 := by
  intro sz
  refine gMet (V := V) (As := [.ref (am 0), .int (nI a), .int (oN none)]) (cc := c_Mo_needs) (maxL := 4) (ret := (some .int)) (by decide) rfl (Nat.le_of_ble_eq_true rfl) (fun a U h => ⟨h.1, h.2.2.2.1⟩) ?_
  intro p e s m below meth c E hr hlk hnm hv
  refine g_toW (sz := sz) (w := wM V am th nY ix bu np st sr go ca nw yo ce wo po ne sv cl mk bg dp sh nx spn) hv.2.2.1 hv.2.2.2.2 ?_
  have hA0 : ∀ q : Nat, s.heap.size ≤ q → va_A (wM V am th nY ix bu np st sr go ca nw yo ce wo po ne sv cl mk bg dp sh nx spn) sz q := fun q h => Or.inr (by rw [← hv.2.1]; exact h)
  refine g_aload_n E d_Mo_needs_0 rfl 0 rfl ?_
  refine g_aload_n E d_Mo_needs_1 rfl 0 rfl ?_
  refine g_iload_n E d_Mo_needs_2 rfl 1 rfl ?_
  refine gpVi (As := [.int (nI a)]) (rest := [.ref (am 0)]) E gO_w 0 rfl rfl (C_Mo_isWork l (nI a) (by omega)) (cs_Mo_121 E rfl rfl ⟨Nat.le_of_ble_eq_true rfl, Nat.le_of_ble_eq_true rfl⟩) rfl rfl (Nat.le_of_ble_eq_true rfl) ⟨Nat.zero_le _, Nat.zero_le _⟩ d_Mo_needs_3 ?_
  refine g_topi (show bI _ = nI 1 from by rw [inR_y (by omega) (by omega)]; rfl) ?_
  refine g_nif_eq E 27 d_Mo_needs_6 (by decide) (by decide) (fun h1 => absurd h1 (by decide)) (fun _ => ?_)
  refine g_iload_n E d_Mo_needs_9 rfl 2 rfl ?_
  refine g_iconst (v := oN none) E d_Mo_needs_10 (by decide) ?_
  refine g_icmp_eq E 23 d_Mo_needs_11 (by decide) (fun h2 => ?_) (fun h2 => ?_)
  · refine g_iconst (v := nI 0) E d_Mo_needs_23 (by decide) ?_
    refine g_goto E 28 d_Mo_needs_24 (by decide) ?_
    refine gwVi (As := [.int (nI 0)]) (rest := []) (w' := wM V am 0 nY ix bu np st sr go ca nw yo ce wo po ne sv cl mk bg dp sh nx spn) (mc := 0) (ms := 0) E hA0 0 rfl rfl (C_Mo_refuses_0 l) (cs_Mo_85 E rfl rfl ⟨Nat.le_of_ble_eq_true rfl, Nat.le_of_ble_eq_true rfl⟩) rfl rfl (Nat.le_of_ble_eq_true rfl) ⟨Nat.zero_le _, Nat.zero_le _⟩ d_Mo_needs_28 ?_
    refine g_nif_eq E 36 d_Mo_needs_31 (by decide) (by decide) (fun _ => ?_) (fun h3 => absurd h3 (by decide))
    refine g_aload_n E d_Mo_needs_36 rfl 0 rfl ?_
    refine gf_Mo_40 E gO_w 0 rfl rfl d_Mo_needs_37 ?_
    refine g_iload_n E d_Mo_needs_40 rfl 1 rfl ?_
    refine g_ldO E gO_w 11 rfl (by omega) (by decide) d_Mo_needs_41 ?_
    refine g_istore_n (lv' := [(3, .int (oN (ne a))), (0, .ref (am 0)), (1, .int (nI a)), (2, .int (oN none))]) E d_Mo_needs_42 rfl (by decide) rfl ?_
    refine g_aload_n E d_Mo_needs_43 rfl 1 rfl ?_
    refine gf_Mo_40 E gO_w 0 rfl rfl d_Mo_needs_44 ?_
    refine g_iload_n E d_Mo_needs_47 rfl 2 rfl ?_
    refine g_iload_n E d_Mo_needs_48 rfl 3 rfl ?_
    refine g_stO (ws' := wM V am 0 nY ix bu np st sr go ca nw yo ce wo po (va_up ne a none) sv cl mk bg dp sh nx spn) E 11 rfl (by omega) (by decide) rfl d_Mo_needs_49 ?_
    refine g_iload_n E d_Mo_needs_50 rfl 0 rfl ?_
    exact g_iret E hr hlk d_Mo_needs_51 (gq_wi (w1 := fun _ => wM V am 0 nY ix bu np st sr go ca nw yo ce wo po (va_up ne a none) sv cl mk bg dp sh nx spn) () (rfl))
  · exact absurd rfl h2

set_option maxHeartbeats 4000000 in
set_option maxRecDepth 100000 in
theorem C_Mo_needs_s (l : Launch) {V : gV} {am : Nat → Nat} {th nY : Nat} {ix bu : Nat → Nat} {np : Nat} {st sr go ca : Nat → Nat} {nw : Nat} {yo ce wo : Nat → Nat} {po ne : Nat → Option Nat} {sv : Nat → Nat} {cl : Nat → Bool} {mk bg dp : Nat} {sh nx : Nat → Nat} {spn : Int} (a : Nat) (q : Nat) (hq : q < nw) (haq : a ≠ q) (ha : a < nw) (hnw : nw ≤ 10) : mWi l y_Mo_needs (w_Mo_needs :: gt) rm_Mo_needs V (wM V am th nY ix bu np st sr go ca nw yo ce wo po ne sv cl mk bg dp sh nx spn) [.ref (am 0), .int (nI a), .int (nI q)] (oN (ne a)) (wM V am 0 nY ix bu np st sr go ca nw yo ce wo po (va_up ne a (some q)) sv cl mk bg dp sh nx spn) 0 0 := by
  intro sz
  refine gMet (V := V) (As := [.ref (am 0), .int (nI a), .int (nI q)]) (cc := c_Mo_needs) (maxL := 4) (ret := (some .int)) (by decide) rfl (Nat.le_of_ble_eq_true rfl) (fun a U h => ⟨h.1, h.2.2.2.1⟩) ?_
  intro p e s m below meth c E hr hlk hnm hv
  refine g_toW (sz := sz) (w := wM V am th nY ix bu np st sr go ca nw yo ce wo po ne sv cl mk bg dp sh nx spn) hv.2.2.1 hv.2.2.2.2 ?_
  have hA0 : ∀ q : Nat, s.heap.size ≤ q → va_A (wM V am th nY ix bu np st sr go ca nw yo ce wo po ne sv cl mk bg dp sh nx spn) sz q := fun q h => Or.inr (by rw [← hv.2.1]; exact h)
  refine g_aload_n E d_Mo_needs_0 rfl 0 rfl ?_
  refine g_aload_n E d_Mo_needs_1 rfl 0 rfl ?_
  refine g_iload_n E d_Mo_needs_2 rfl 1 rfl ?_
  refine gpVi (As := [.int (nI a)]) (rest := [.ref (am 0)]) E gO_w 0 rfl rfl (C_Mo_isWork l (nI a) (by omega)) (cs_Mo_121 E rfl rfl ⟨Nat.le_of_ble_eq_true rfl, Nat.le_of_ble_eq_true rfl⟩) rfl rfl (Nat.le_of_ble_eq_true rfl) ⟨Nat.zero_le _, Nat.zero_le _⟩ d_Mo_needs_3 ?_
  refine g_topi (show bI _ = nI 1 from by rw [inR_y (by omega) (by omega)]; rfl) ?_
  refine g_nif_eq E 27 d_Mo_needs_6 (by decide) (by decide) (fun h1 => absurd h1 (by decide)) (fun _ => ?_)
  refine g_iload_n E d_Mo_needs_9 rfl 2 rfl ?_
  refine g_iconst (v := oN none) E d_Mo_needs_10 (by decide) ?_
  refine g_icmp_eq E 23 d_Mo_needs_11 (by decide) (fun h2 => ?_) (fun h2 => ?_)
  · exact absurd h2 (by intro z; have := congrArg Int32.toInt z; rw [nI_toInt (by omega)] at this; have h2 : (oN none).toInt = -1 := (by decide); omega)
  · refine g_aload_n E d_Mo_needs_14 rfl 0 rfl ?_
    refine g_iload_n E d_Mo_needs_15 rfl 1 rfl ?_
    refine g_iload_n E d_Mo_needs_16 rfl 2 rfl ?_
    refine gpVi (As := [.int (nI a), .int (nI q)]) (rest := [.ref (am 0)]) E gO_w 0 rfl rfl (C_Mo_areTwo l (nI a) (nI q) (by omega)) (cs_Mo_124 E rfl rfl ⟨Nat.le_of_ble_eq_true rfl, Nat.le_of_ble_eq_true rfl⟩) rfl rfl (Nat.le_of_ble_eq_true rfl) ⟨Nat.zero_le _, Nat.zero_le _⟩ d_Mo_needs_17 ?_
    refine g_topi (show bI _ = nI 1 from by rw [twoW_y (by omega) (by omega) (by omega) (by omega)]; rfl) ?_
    refine g_nif_eq E 27 d_Mo_needs_20 (by decide) (by decide) (fun h3 => absurd h3 (by decide)) (fun _ => ?_)
    refine g_iconst (v := nI 0) E d_Mo_needs_23 (by decide) ?_
    refine g_goto E 28 d_Mo_needs_24 (by decide) ?_
    refine gwVi (As := [.int (nI 0)]) (rest := []) (w' := wM V am 0 nY ix bu np st sr go ca nw yo ce wo po ne sv cl mk bg dp sh nx spn) (mc := 0) (ms := 0) E hA0 0 rfl rfl (C_Mo_refuses_0 l) (cs_Mo_85 E rfl rfl ⟨Nat.le_of_ble_eq_true rfl, Nat.le_of_ble_eq_true rfl⟩) rfl rfl (Nat.le_of_ble_eq_true rfl) ⟨Nat.zero_le _, Nat.zero_le _⟩ d_Mo_needs_28 ?_
    refine g_nif_eq E 36 d_Mo_needs_31 (by decide) (by decide) (fun _ => ?_) (fun h4 => absurd h4 (by decide))
    refine g_aload_n E d_Mo_needs_36 rfl 0 rfl ?_
    refine gf_Mo_40 E gO_w 0 rfl rfl d_Mo_needs_37 ?_
    refine g_iload_n E d_Mo_needs_40 rfl 1 rfl ?_
    refine g_ldO E gO_w 11 rfl (by omega) (by decide) d_Mo_needs_41 ?_
    refine g_istore_n (lv' := [(3, .int (oN (ne a))), (0, .ref (am 0)), (1, .int (nI a)), (2, .int (nI q))]) E d_Mo_needs_42 rfl (by decide) rfl ?_
    refine g_aload_n E d_Mo_needs_43 rfl 1 rfl ?_
    refine gf_Mo_40 E gO_w 0 rfl rfl d_Mo_needs_44 ?_
    refine g_iload_n E d_Mo_needs_47 rfl 2 rfl ?_
    refine g_iload_n E d_Mo_needs_48 rfl 3 rfl ?_
    refine g_topi (show nI q = oN (some q) from rfl) ?_
    refine g_stO (ws' := wM V am 0 nY ix bu np st sr go ca nw yo ce wo po (va_up ne a (some q)) sv cl mk bg dp sh nx spn) E 11 rfl (by omega) (by decide) rfl d_Mo_needs_49 ?_
    refine g_iload_n E d_Mo_needs_50 rfl 0 rfl ?_
    exact g_iret E hr hlk d_Mo_needs_51 (gq_wi (w1 := fun _ => wM V am 0 nY ix bu np st sr go ca nw yo ce wo po (va_up ne a (some q)) sv cl mk bg dp sh nx spn) () (rfl))
