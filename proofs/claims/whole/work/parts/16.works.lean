theorem cR_no {ix yo ce : Nat → Nat} {sv : Nat → Nat → Nat} {S i : Nat} (h : S.testBit i = false) : (fun y => cR ix yo ce sv S y i) = fun y => cR ix yo ce sv S y (i + 1) := by
  funext y; simp [cR, sumZ, h]
theorem cR_yes {ix yo ce : Nat → Nat} {sv : Nat → Nat → Nat} {S i : Nat} (h : S.testBit i = true) : va_up (fun y => cR ix yo ce sv S y i) (yo i) (cR ix yo ce sv S (yo i) i + (((ce i * ix (yo i) / 1000 : Nat) : Int) - ((sW yo sv S i i : Nat) : Int))) = fun y => cR ix yo ce sv S y (i + 1) := by
  funext y
  by_cases e : y = yo i
  · subst e; rw [va_up_self]; simp [cR, sumZ, h]
  · rw [va_up_ne _ _ e]; simp [cR, sumZ, h, Ne.symm e]
theorem mz_up {f : Nat → Int} {i : Nat} : va_up (fun y => if y < i then mz (f y) else f y) i (mz (f i)) = fun y => if y < i + 1 then mz (f y) else f y := by
  funext y
  by_cases e : y = i
  · subst e; rw [va_up_self, if_pos (Nat.lt_succ_self _)]
  · rw [va_up_ne _ _ e]
    by_cases h : y < i
    · rw [if_pos h, if_pos (by omega)]
    · rw [if_neg h, if_neg (by omega)]
theorem cS_all {ix yo ce : Nat → Nat} {sv : Nat → Nat → Nat} {S nw nY : Nat} (h : ∀ w, yo w < nY) : (fun y => if y < nY then mz (cR ix yo ce sv S y nw) else cR ix yo ce sv S y nw) = cS ix yo ce sv nw S := by
  funext y
  unfold cS
  split
  · rfl
  · rename_i h1
    have e : cR ix yo ce sv S y nw = 0 := by
      unfold cR
      have q : ∀ n, sumZ (fun w => if S.testBit w && decide (yo w = y) then ((ce w * ix y / 1000 : Nat) : Int) - ((sW yo sv S w w : Nat) : Int) else 0) n = 0 := by
        intro n
        induction n with
        | zero => rfl
        | succ n ih =>
          simp only [sumZ, ih]
          have := h n
          rw [if_neg (by simp; intro _; omega)]
          rfl
      exact q nw
    rw [e]; rfl
section FI
variable {V : gV} {ad r1 r2 r3 : Nat → Nat} {nY : Nat} {ix bu : Nat → Nat} {np : Nat} {st sr : Nat → Nat} {sx tk : Nat → Nat → Nat} {rn sh sn : Nat → Nat} {yw nw : Nat} {yo ce wo : Nat → Nat} {po ne : Nat → Option Nat} {cs : Nat → Nat} {sv : Nat → Nat → Nat} {mk : Nat} {sp rs : Nat → Int} {bg dp : Nat}
theorem C_fill_sp (l : Launch) : mWv l y_Ar_fillI (w_Ar_fillI :: gt) rm_Ar_fillI V (wC V ad r1 r2 r3 nY ix bu np st sr sx tk rn sh sn yw nw yo ce wo po ne cs sv mk sp rs bg dp) [.ref (ad 20), .int (nI 0)] (wC V ad r1 r2 r3 nY ix bu np st sr sx tk rn sh sn yw nw yo ce wo po ne cs sv mk (fun _ => 0) rs bg dp) 0 0 := by
  have q := C_fillI l (V := V) (w := wC V ad r1 r2 r3 nY ix bu np st sr sx tk rn sh sn yw nw yo ce wo po ne cs sv mk sp rs bg dp) 20 (ad 20) 12 (fun j => iI (sp j)) (nI 0) rfl (by decide)
  rw [show (fun (_ : Nat) => nI 0) = fun _ => iI 0 from funext fun _ => nI_iI 0] at q
  exact q
theorem C_fill_rn (l : Launch) : mWv l y_Ar_fillI (w_Ar_fillI :: gt) rm_Ar_fillI V (wC V ad r1 r2 r3 nY ix bu np st sr sx tk rn sh sn yw nw yo ce wo po ne cs sv mk sp rs bg dp) [.ref (ad 9), .int (nI 0)] (wC V ad r1 r2 r3 nY ix bu np st sr sx tk (fun _ => 0) sh sn yw nw yo ce wo po ne cs sv mk sp rs bg dp) 0 0 := C_fillI l (V := V) (w := wC V ad r1 r2 r3 nY ix bu np st sr sx tk rn sh sn yw nw yo ce wo po ne cs sv mk sp rs bg dp) 9 (ad 9) 12 (fun j => nI (rn j)) (nI 0) rfl (by decide)
theorem C_fill_sh (l : Launch) : mWv l y_Ar_fillJ (w_Ar_fillJ :: gt) rm_Ar_fillJ V (wC V ad r1 r2 r3 nY ix bu np st sr sx tk rn sh sn yw nw yo ce wo po ne cs sv mk sp rs bg dp) [.ref (ad 10), .long (lN 0)] (wC V ad r1 r2 r3 nY ix bu np st sr sx tk rn (fun _ => 0) sn yw nw yo ce wo po ne cs sv mk sp rs bg dp) 0 0 := C_fillJ l (V := V) (w := wC V ad r1 r2 r3 nY ix bu np st sr sx tk rn sh sn yw nw yo ce wo po ne cs sv mk sp rs bg dp) 10 (ad 10) 4 (fun j => lN (sh j)) (lN 0) rfl (by decide)
end FI

set_option maxHeartbeats 4000000 in
set_option maxRecDepth 100000 in
theorem C_Wo_worthOf (l : Launch) {V : gV} {ad r1 r2 r3 : Nat → Nat} {nY : Nat} {ix bu : Nat → Nat} {np : Nat} {st sr : Nat → Nat} {sx tk : Nat → Nat → Nat} {rn sh sn : Nat → Nat} {yw nw : Nat} {yo ce wo : Nat → Nat} {po ne : Nat → Option Nat} {cs : Nat → Nat} {sv : Nat → Nat → Nat} {mk : Nat} {sp rs : Nat → Int} {bg dp : Nat} (S : Nat) (hS : S < 2 ^ 31) (hnw : nw ≤ 10) : mPi l y_Wo_worthOf (w_Wo_worthOf :: gt) rm_Wo_worthOf V (wC V ad r1 r2 r3 nY ix bu np st sr sx tk rn sh sn yw nw yo ce wo po ne cs sv mk sp rs bg dp) [.ref (ad 12), .int (nI S)] (nI (wS wo S nw)) := by
  refine gMet (V := V) (As := [.ref (ad 12), .int (nI S)]) (cc := c_Wo_worthOf) (maxL := 4) (ret := (some .int)) (by decide) rfl (Nat.le_of_ble_eq_true rfl) (fun a U h => ⟨h.1, h.2.2⟩) ?_
  intro p e s m below meth c E hr hlk hnm hv
  have hO := gO_r (locs1 := []) (ws := wC V ad r1 r2 r3 nY ix bu np st sr sx tk rn sh sn yw nw yo ce wo po ne cs sv mk sp rs bg dp) hv.2.1
  refine g_iconst (v := nI 0) E d_Wo_worthOf_0 (by decide) ?_
  refine g_istore_n (lv' := [(2, .int (nI 0)), (0, .ref (ad 12)), (1, .int (nI S))]) E d_Wo_worthOf_1 rfl (by decide) rfl ?_
  refine g_iconst (v := nI 0) E d_Wo_worthOf_2 (by decide) ?_
  refine g_istore_n (lv' := [(3, .int (nI 0)), (2, .int (nI 0)), (0, .ref (ad 12)), (1, .int (nI S))]) E d_Wo_worthOf_3 rfl (by decide) rfl ?_
  refine g_lv [0, 1, 2, 3] rfl ?_
  refine gloop (α := Nat × Nat) (fun a_ => gR s.heap []) (fun a_ => [(3, .int (nI a_.1)), (2, .int (nI a_.2)), (0, .ref (ad 12)), (1, .int (nI S))]) (fun a_ => a_.1 ≤ nw ∧ a_.2 = wS wo S a_.1) (fun a_ => nw - a_.1) (0, 0) (⟨Nat.zero_le _, rfl⟩) ?_
  rintro ⟨i, acc⟩ hI_4 ih_4
  try dsimp only at hI_4 ih_4 ⊢
  refine g_iload_n E d_Wo_worthOf_4 rfl 0 rfl ?_
  refine g_aload_n E d_Wo_worthOf_5 rfl 2 rfl ?_
  refine gf_Wo_44 E hO 12 rfl rfl d_Wo_worthOf_6 ?_
  refine g_ncmp_ge E 35 d_Wo_worthOf_9 (by decide) (by omega) (by omega) (fun h1 => ?_) (fun h1 => ?_)
  · refine g_iload_n E d_Wo_worthOf_35 rfl 1 rfl ?_
    exact g_iret E hr hlk d_Wo_worthOf_36 (gq_i (by rw [hI_4.2, show i = nw by omega]))
  · refine g_iload_n E d_Wo_worthOf_12 rfl 3 rfl ?_
    refine g_iload_n E d_Wo_worthOf_13 rfl 0 rfl ?_
    refine gpNi (As := [.int (nI S), .int (nI i)]) (rest := []) E hO (C_CY_holds l S i (by omega) (by omega)) (cs_Wo_48 E rfl rfl ⟨Nat.le_of_ble_eq_true rfl, Nat.le_of_ble_eq_true rfl⟩) rfl rfl (Nat.le_of_ble_eq_true rfl) ⟨Nat.zero_le _, Nat.zero_le _⟩ d_Wo_worthOf_14 ?_
    refine g_bif_eq E 29 d_Wo_worthOf_17 (by decide) (fun h2 => ?_) (fun h2 => ?_)
    · refine g_iinc (lv' := [(3, .int (nI (i + 1))), (2, .int (nI acc)), (0, .ref (ad 12)), (1, .int (nI S))]) E d_Wo_worthOf_29 0 rfl (nI_inc _) (by decide) rfl ?_
      refine g_goto E 4 d_Wo_worthOf_32 (by decide) ?_
      refine g_lv [0, 1, 2, 3] rfl ?_
      exact ih_4 (i + 1, acc) (⟨by (try dsimp only); omega, by (try dsimp only); rw [hI_4.2]; simp [wS, sumN, h2]⟩) (by (try dsimp only); omega)
    · refine g_iload_n E d_Wo_worthOf_20 rfl 1 rfl ?_
      refine g_aload_n E d_Wo_worthOf_21 rfl 2 rfl ?_
      refine gf_Wo_18 E hO 12 rfl rfl d_Wo_worthOf_22 ?_
      refine g_iload_n E d_Wo_worthOf_25 rfl 0 rfl ?_
      refine g_ldN E hO 15 rfl (by omega) (by decide) d_Wo_worthOf_26 ?_
      refine g_iadd E d_Wo_worthOf_27 ?_
      refine g_topi (nI_add _ _) ?_
      refine g_istore_n (lv' := [(2, .int (nI (acc + (wo i)))), (3, .int (nI i)), (0, .ref (ad 12)), (1, .int (nI S))]) E d_Wo_worthOf_28 rfl (by decide) rfl ?_
      refine g_iinc (lv' := [(3, .int (nI (i + 1))), (2, .int (nI (acc + (wo i)))), (0, .ref (ad 12)), (1, .int (nI S))]) E d_Wo_worthOf_29 1 rfl (nI_inc _) (by decide) rfl ?_
      refine g_goto E 4 d_Wo_worthOf_32 (by decide) ?_
      refine g_lv [0, 1, 2, 3] rfl ?_
      exact ih_4 (i + 1, acc + (wo i)) (⟨by (try dsimp only); omega, by (try dsimp only); rw [hI_4.2]; simp [wS, sumN, h2]⟩) (by (try dsimp only); omega)

set_option maxHeartbeats 4000000 in
set_option maxRecDepth 100000 in
theorem C_Wo_lacksNeeded (l : Launch) {V : gV} {ad r1 r2 r3 : Nat → Nat} {nY : Nat} {ix bu : Nat → Nat} {np : Nat} {st sr : Nat → Nat} {sx tk : Nat → Nat → Nat} {rn sh sn : Nat → Nat} {yw nw : Nat} {yo ce wo : Nat → Nat} {po ne : Nat → Option Nat} {cs : Nat → Nat} {sv : Nat → Nat → Nat} {mk : Nat} {sp rs : Nat → Int} {bg dp : Nat} (k S : Nat) (hk : k < 10) (hS : S < 2 ^ 31) (hne : ∀ w q, ne w = some q → q < 10) (hyo : ∀ w, yo w < 12) : mPi l y_Wo_lacksNeeded (w_Wo_lacksNeeded :: gt) rm_Wo_lacksNeeded V (wC V ad r1 r2 r3 nY ix bu np st sr sx tk rn sh sn yw nw yo ce wo po ne cs sv mk sp rs bg dp) [.ref (ad 12), .int (nI k), .int (nI S)] (bI (nB ne yo S k)) := by
  refine gMet (V := V) (As := [.ref (ad 12), .int (nI k), .int (nI S)]) (cc := c_Wo_lacksNeeded) (maxL := 4) (ret := (some .boolean)) (by decide) rfl (Nat.le_of_ble_eq_true rfl) (fun a U h => ⟨h.1, h.2.2⟩) ?_
  intro p e s m below meth c E hr hlk hnm hv
  have hO := gO_r (locs1 := []) (ws := wC V ad r1 r2 r3 nY ix bu np st sr sx tk rn sh sn yw nw yo ce wo po ne cs sv mk sp rs bg dp) hv.2.1
  rcases hz : ne k with _ | q
  · refine g_aload_n E d_Wo_lacksNeeded_0 rfl 0 rfl ?_
    refine gf_Wo_24 E hO 12 rfl rfl d_Wo_lacksNeeded_1 ?_
    refine g_iload_n E d_Wo_lacksNeeded_4 rfl 1 rfl ?_
    refine g_ldO E hO 17 rfl (by omega) (by decide) d_Wo_lacksNeeded_5 ?_
    refine g_topi (congrArg oN hz) ?_
    refine g_istore_n (lv' := [(3, .int (oN none)), (0, .ref (ad 12)), (1, .int (nI k)), (2, .int (nI S))]) E d_Wo_lacksNeeded_6 rfl (by decide) rfl ?_
    refine g_iload_n E d_Wo_lacksNeeded_7 rfl 0 rfl ?_
    refine g_iconst (v := oN none) E d_Wo_lacksNeeded_8 (by decide) ?_
    refine g_icmp_eq E 39 d_Wo_lacksNeeded_9 (by decide) (fun h1 => ?_) (fun h1 => ?_)
    · refine g_iconst (v := nI 0) E d_Wo_lacksNeeded_39 (by decide) ?_
      exact g_zret E hr hlk d_Wo_lacksNeeded_40 (Or.inl rfl) (gq_i (by simp [nB, hz, bI, nI_0]))
    · exact absurd rfl h1
  · have hq := hne k q hz
    have y1 := hyo k
    have y2 := hyo q
    refine g_aload_n E d_Wo_lacksNeeded_0 rfl 0 rfl ?_
    refine gf_Wo_24 E hO 12 rfl rfl d_Wo_lacksNeeded_1 ?_
    refine g_iload_n E d_Wo_lacksNeeded_4 rfl 1 rfl ?_
    refine g_ldO E hO 17 rfl (by omega) (by decide) d_Wo_lacksNeeded_5 ?_
    refine g_topi ((congrArg oN hz).trans (show oN (some q) = nI q from rfl)) ?_
    refine g_istore_n (lv' := [(3, .int (nI q)), (0, .ref (ad 12)), (1, .int (nI k)), (2, .int (nI S))]) E d_Wo_lacksNeeded_6 rfl (by decide) rfl ?_
    refine g_iload_n E d_Wo_lacksNeeded_7 rfl 0 rfl ?_
    refine g_iconst (v := oN none) E d_Wo_lacksNeeded_8 (by decide) ?_
    refine g_icmp_eq E 39 d_Wo_lacksNeeded_9 (by decide) (fun h1 => ?_) (fun h1 => ?_)
    · exact absurd h1 (by intro z; have := congrArg Int32.toInt z; rw [nI_toInt (by omega)] at this; have h2 : (oN none).toInt = -1 := (by decide); omega)
    · refine g_iload_n E d_Wo_lacksNeeded_12 rfl 3 rfl ?_
      refine g_iload_n E d_Wo_lacksNeeded_13 rfl 0 rfl ?_
      refine gpNi (As := [.int (nI S), .int (nI q)]) (rest := []) E hO (C_CY_holds l S q (by omega) (by omega)) (cs_Wo_48 E rfl rfl ⟨Nat.le_of_ble_eq_true rfl, Nat.le_of_ble_eq_true rfl⟩) rfl rfl (Nat.le_of_ble_eq_true rfl) ⟨Nat.zero_le _, Nat.zero_le _⟩ d_Wo_lacksNeeded_14 ?_
      refine g_bif_eq E 35 d_Wo_lacksNeeded_17 (by decide) (fun h2 => ?_) (fun h2 => ?_)
      · refine g_iconst (v := nI 1) E d_Wo_lacksNeeded_35 (by decide) ?_
        refine g_goto E 40 d_Wo_lacksNeeded_36 (by decide) ?_
        exact g_zret E hr hlk d_Wo_lacksNeeded_40 (Or.inr rfl) (gq_i (by simp [nB, hz, bI, nI_0, nI_c1, h2]))
      · refine g_aload_n E d_Wo_lacksNeeded_20 rfl 1 rfl ?_
        refine gf_Wo_11 E hO 12 rfl rfl d_Wo_lacksNeeded_21 ?_
        refine g_iload_n E d_Wo_lacksNeeded_24 rfl 2 rfl ?_
        refine g_ldN E hO 13 rfl (by omega) (by decide) d_Wo_lacksNeeded_25 ?_
        refine g_aload_n E d_Wo_lacksNeeded_26 rfl 1 rfl ?_
        refine gf_Wo_11 E hO 12 rfl rfl d_Wo_lacksNeeded_27 ?_
        refine g_iload_n E d_Wo_lacksNeeded_30 rfl 0 rfl ?_
        refine g_ldN E hO 13 rfl (by omega) (by decide) d_Wo_lacksNeeded_31 ?_
        refine g_ncmp_ge E 39 d_Wo_lacksNeeded_32 (by decide) (by omega) (by omega) (fun h3 => ?_) (fun h3 => ?_)
        · refine g_iconst (v := nI 0) E d_Wo_lacksNeeded_39 (by decide) ?_
          exact g_zret E hr hlk d_Wo_lacksNeeded_40 (Or.inl rfl) (gq_i (by simp [nB, hz, bI, nI_0, nI_c1, h2, h3]; try omega))
        · refine g_iconst (v := nI 1) E d_Wo_lacksNeeded_35 (by decide) ?_
          refine g_goto E 40 d_Wo_lacksNeeded_36 (by decide) ?_
          exact g_zret E hr hlk d_Wo_lacksNeeded_40 (Or.inr rfl) (gq_i (by simp [nB, hz, bI, nI_0, nI_c1, h2, h3]; try omega))

set_option maxHeartbeats 4000000 in
set_option maxRecDepth 100000 in
theorem C_Wo_agree (l : Launch) {V : gV} {ad r1 r2 r3 : Nat → Nat} {nY : Nat} {ix bu : Nat → Nat} {np : Nat} {st sr : Nat → Nat} {sx tk : Nat → Nat → Nat} {rn sh sn : Nat → Nat} {yw nw : Nat} {yo ce wo : Nat → Nat} {po ne : Nat → Option Nat} {cs : Nat → Nat} {sv : Nat → Nat → Nat} {mk : Nat} {sp rs : Nat → Int} {bg dp : Nat} (S : Nat) (hS : S < 1024) (hnw : nw ≤ 10) (hcs : ∀ w, cs w < 1024) (hne : ∀ w q, ne w = some q → q < 10) (hyo : ∀ w, yo w < 12) : mPi l y_Wo_agree (w_Wo_agree :: gt) rm_Wo_agree V (wC V ad r1 r2 r3 nY ix bu np st sr sx tk rn sh sn yw nw yo ce wo po ne cs sv mk sp rs bg dp) [.ref (ad 12), .int (nI S)] (bI (allN (agW cs ne yo S) nw)) := by
  refine gMet (V := V) (As := [.ref (ad 12), .int (nI S)]) (cc := c_Wo_agree) (maxL := 3) (ret := (some .boolean)) (by decide) rfl (Nat.le_of_ble_eq_true rfl) (fun a U h => ⟨h.1, h.2.2⟩) ?_
  intro p e s m below meth c E hr hlk hnm hv
  have hO := gO_r (locs1 := []) (ws := wC V ad r1 r2 r3 nY ix bu np st sr sx tk rn sh sn yw nw yo ce wo po ne cs sv mk sp rs bg dp) hv.2.1
  refine g_iconst (v := nI 0) E d_Wo_agree_0 (by decide) ?_
  refine g_istore_n (lv' := [(2, .int (nI 0)), (0, .ref (ad 12)), (1, .int (nI S))]) E d_Wo_agree_1 rfl (by decide) rfl ?_
  refine g_lv [0, 1, 2] rfl ?_
  refine gloop (α := Nat) (fun a_ => gR s.heap []) (fun a_ => [(2, .int (nI a_)), (0, .ref (ad 12)), (1, .int (nI S))]) (fun a_ => a_ ≤ nw ∧ ∀ j, j < a_ → agW cs ne yo S j = true) (fun a_ => nw - a_) (0) (⟨Nat.zero_le _, fun j hj => absurd hj (Nat.not_lt_zero _)⟩) ?_
  rintro i hI_2 ih_2
  try dsimp only at hI_2 ih_2 ⊢
  refine g_iload_n E d_Wo_agree_2 rfl 0 rfl ?_
  refine g_aload_n E d_Wo_agree_3 rfl 1 rfl ?_
  refine gf_Wo_44 E hO 12 rfl rfl d_Wo_agree_4 ?_
  refine g_ncmp_ge E 46 d_Wo_agree_7 (by decide) (by first | omega | exact Nat.lt_of_le_of_lt Nat.and_le_right (by omega)) (by first | omega | exact Nat.lt_of_le_of_lt Nat.and_le_right (by omega)) (fun h1 => ?_) (fun h1 => ?_)
  · refine g_iconst (v := nI 1) E d_Wo_agree_46 (by decide) ?_
    exact g_zret E hr hlk d_Wo_agree_47 (Or.inr rfl) (gq_i (by rw [allN_iff.mpr (fun j hj => hI_2.2 j (by omega))]; rfl))
  · refine g_iload_n E d_Wo_agree_10 rfl 2 rfl ?_
    refine g_iload_n E d_Wo_agree_11 rfl 0 rfl ?_
    refine gpNi (As := [.int (nI S), .int (nI i)]) (rest := []) E hO (C_CY_holds l S i (by omega) (by omega)) (cs_Wo_48 E rfl rfl ⟨Nat.le_of_ble_eq_true rfl, Nat.le_of_ble_eq_true rfl⟩) rfl rfl (Nat.le_of_ble_eq_true rfl) ⟨Nat.zero_le _, Nat.zero_le _⟩ d_Wo_agree_12 ?_
    refine g_bif_eq E 40 d_Wo_agree_15 (by decide) (fun h2 => ?_) (fun h2 => ?_)
    · refine g_iinc (lv' := [(2, .int (nI (i + 1))), (0, .ref (ad 12)), (1, .int (nI S))]) E d_Wo_agree_40 0 rfl (nI_inc _) (by decide) rfl ?_
      refine g_goto E 2 d_Wo_agree_43 (by decide) ?_
      refine g_lv [0, 1, 2] rfl ?_
      exact ih_2 (i + 1) (⟨by (try dsimp only); omega, lt_s hI_2.2 (by simp [agW, h2])⟩) (by (try dsimp only); omega)
    · refine g_aload_n E d_Wo_agree_18 rfl 1 rfl ?_
      refine gf_Wo_27 E hO 12 rfl rfl d_Wo_agree_19 ?_
      refine g_iload_n E d_Wo_agree_22 rfl 0 rfl ?_
      refine g_ldN E hO 18 rfl (by omega) (by decide) d_Wo_agree_23 ?_
      refine g_iload_n E d_Wo_agree_24 rfl 2 rfl ?_
      refine g_iand E d_Wo_agree_25 ?_
      refine g_topi (nI_and _ _) ?_
      refine g_nif_ne E 38 d_Wo_agree_26 (by decide) (by first | omega | exact Nat.lt_of_le_of_lt Nat.and_le_right (by omega)) (fun h3 => ?_) (fun h3 => ?_)
      · refine g_iconst (v := nI 0) E d_Wo_agree_38 (by decide) ?_
        exact g_zret E hr hlk d_Wo_agree_39 (Or.inl rfl) (gq_i (by rw [allN_false (i := i) (by omega) (by simp [agW, h2, h3])]; rfl))
      · refine g_aload_n E d_Wo_agree_29 rfl 1 rfl ?_
        refine g_iload_n E d_Wo_agree_30 rfl 0 rfl ?_
        refine g_iload_n E d_Wo_agree_31 rfl 2 rfl ?_
        refine gpVi (As := [.int (nI i), .int (nI S)]) (rest := []) E hO 12 rfl rfl (C_Wo_lacksNeeded l i S (by omega) (by omega) hne hyo) (cs_Wo_52 E rfl rfl ⟨Nat.le_of_ble_eq_true rfl, Nat.le_of_ble_eq_true rfl⟩) rfl rfl (Nat.le_of_ble_eq_true rfl) ⟨Nat.zero_le _, Nat.zero_le _⟩ d_Wo_agree_32 ?_
        refine g_bif_eq E 40 d_Wo_agree_35 (by decide) (fun h4 => ?_) (fun h4 => ?_)
        · refine g_iinc (lv' := [(2, .int (nI (i + 1))), (0, .ref (ad 12)), (1, .int (nI S))]) E d_Wo_agree_40 0 rfl (nI_inc _) (by decide) rfl ?_
          refine g_goto E 2 d_Wo_agree_43 (by decide) ?_
          refine g_lv [0, 1, 2] rfl ?_
          exact ih_2 (i + 1) (⟨by (try dsimp only); omega, lt_s hI_2.2 (by simp [agW, h2, h3, h4])⟩) (by (try dsimp only); omega)
        · refine g_iconst (v := nI 0) E d_Wo_agree_38 (by decide) ?_
          exact g_zret E hr hlk d_Wo_agree_39 (Or.inl rfl) (gq_i (by rw [allN_false (i := i) (by omega) (by simp [agW, h2, h3, h4])]; rfl))

set_option maxHeartbeats 4000000 in
set_option maxRecDepth 100000 in
theorem C_Wo_savedWithEarlier (l : Launch) {V : gV} {ad r1 r2 r3 : Nat → Nat} {nY : Nat} {ix bu : Nat → Nat} {np : Nat} {st sr : Nat → Nat} {sx tk : Nat → Nat → Nat} {rn sh sn : Nat → Nat} {yw nw : Nat} {yo ce wo : Nat → Nat} {po ne : Nat → Option Nat} {cs : Nat → Nat} {sv : Nat → Nat → Nat} {mk : Nat} {sp rs : Nat → Int} {bg dp : Nat} (k S : Nat) (hk : k < 10) (hS : S < 1024) (hyo : ∀ w, yo w < 12) : mPi l y_Wo_savedWithEarlier (w_Wo_savedWithEarlier :: gt) rm_Wo_savedWithEarlier V (wC V ad r1 r2 r3 nY ix bu np st sr sx tk rn sh sn yw nw yo ce wo po ne cs sv mk sp rs bg dp) [.ref (ad 12), .int (nI k), .int (nI S)] (nI (sW yo sv S k k)) := by
  refine gMet (V := V) (As := [.ref (ad 12), .int (nI k), .int (nI S)]) (cc := c_Wo_savedWithEarlier) (maxL := 5) (ret := (some .int)) (by decide) rfl (Nat.le_of_ble_eq_true rfl) (fun a U h => ⟨h.1, h.2.2⟩) ?_
  intro p e s m below meth c E hr hlk hnm hv
  have hO := gO_r (locs1 := []) (ws := wC V ad r1 r2 r3 nY ix bu np st sr sx tk rn sh sn yw nw yo ce wo po ne cs sv mk sp rs bg dp) hv.2.1
  refine g_iconst (v := nI 0) E d_Wo_savedWithEarlier_0 (by decide) ?_
  refine g_istore_n (lv' := [(3, .int (nI 0)), (0, .ref (ad 12)), (1, .int (nI k)), (2, .int (nI S))]) E d_Wo_savedWithEarlier_1 rfl (by decide) rfl ?_
  refine g_iconst (v := nI 0) E d_Wo_savedWithEarlier_2 (by decide) ?_
  refine g_istore (lv' := [(4, .int (nI 0)), (3, .int (nI 0)), (0, .ref (ad 12)), (1, .int (nI k)), (2, .int (nI S))]) E d_Wo_savedWithEarlier_3 (by decide) rfl ?_
  refine g_lv [0, 1, 2, 3, 4] rfl ?_
  refine gloop (α := Nat × Nat) (fun a_ => gR s.heap []) (fun a_ => [(4, .int (nI a_.1)), (3, .int (nI a_.2)), (0, .ref (ad 12)), (1, .int (nI k)), (2, .int (nI S))]) (fun a_ => a_.1 ≤ k ∧ a_.2 = sW yo sv S k a_.1) (fun a_ => k - a_.1) (0, 0) (⟨Nat.zero_le _, rfl⟩) ?_
  rintro ⟨i, acc⟩ hI_5 ih_5
  try dsimp only at hI_5 ih_5 ⊢
  refine g_iload E d_Wo_savedWithEarlier_5 0 rfl ?_
  refine g_iload_n E d_Wo_savedWithEarlier_7 rfl 3 rfl ?_
  refine g_ncmp_ge E 54 d_Wo_savedWithEarlier_8 (by decide) (by omega) (by omega) (fun h1 => ?_) (fun h1 => ?_)
  · refine g_iload_n E d_Wo_savedWithEarlier_54 rfl 1 rfl ?_
    exact g_iret E hr hlk d_Wo_savedWithEarlier_55 (gq_i (by rw [hI_5.2, show i = k by omega]))
  · refine g_iload_n E d_Wo_savedWithEarlier_11 rfl 4 rfl ?_
    refine g_iload E d_Wo_savedWithEarlier_12 0 rfl ?_
    refine gpNi (As := [.int (nI S), .int (nI i)]) (rest := []) E hO (C_CY_holds l S i (by omega) (by omega)) (cs_Wo_48 E rfl rfl ⟨Nat.le_of_ble_eq_true rfl, Nat.le_of_ble_eq_true rfl⟩) rfl rfl (Nat.le_of_ble_eq_true rfl) ⟨Nat.zero_le _, Nat.zero_le _⟩ d_Wo_savedWithEarlier_14 ?_
    refine g_bif_eq E 48 d_Wo_savedWithEarlier_17 (by decide) (fun h2 => ?_) (fun h2 => ?_)
    · refine g_iinc (lv' := [(4, .int (nI (i + 1))), (3, .int (nI acc)), (0, .ref (ad 12)), (1, .int (nI k)), (2, .int (nI S))]) E d_Wo_savedWithEarlier_48 0 rfl (nI_inc _) (by decide) rfl ?_
      refine g_goto E 5 d_Wo_savedWithEarlier_51 (by decide) ?_
      refine g_lv [0, 1, 2, 3, 4] rfl ?_
      exact ih_5 (i + 1, acc) (⟨by (try dsimp only); omega, by (try dsimp only); rw [hI_5.2]; simp [sW, sumN, h2]⟩) (by (try dsimp only); omega)
    · refine g_aload_n E d_Wo_savedWithEarlier_20 rfl 2 rfl ?_
      refine gf_Wo_11 E hO 12 rfl rfl d_Wo_savedWithEarlier_21 ?_
      refine g_iload E d_Wo_savedWithEarlier_24 0 rfl ?_
      refine g_ldN E hO 13 rfl (by omega) (by decide) d_Wo_savedWithEarlier_26 ?_
      refine g_aload_n E d_Wo_savedWithEarlier_27 rfl 2 rfl ?_
      refine gf_Wo_11 E hO 12 rfl rfl d_Wo_savedWithEarlier_28 ?_
      refine g_iload_n E d_Wo_savedWithEarlier_31 rfl 3 rfl ?_
      refine g_ldN E hO 13 rfl (by omega) (by decide) d_Wo_savedWithEarlier_32 ?_
      have y1 := hyo i; have y2 := hyo k
      refine g_ncmp_ne E 48 d_Wo_savedWithEarlier_33 (by decide) (by omega) (by omega) (fun h3 => ?_) (fun h3 => ?_)
      · refine g_iinc (lv' := [(4, .int (nI (i + 1))), (3, .int (nI acc)), (0, .ref (ad 12)), (1, .int (nI k)), (2, .int (nI S))]) E d_Wo_savedWithEarlier_48 0 rfl (nI_inc _) (by decide) rfl ?_
        refine g_goto E 5 d_Wo_savedWithEarlier_51 (by decide) ?_
        refine g_lv [0, 1, 2, 3, 4] rfl ?_
        exact ih_5 (i + 1, acc) (⟨by (try dsimp only); omega, by (try dsimp only); rw [hI_5.2]; simp [sW, sumN, h2, h3]⟩) (by (try dsimp only); omega)
      · refine g_iload_n E d_Wo_savedWithEarlier_36 rfl 1 rfl ?_
        refine g_aload_n E d_Wo_savedWithEarlier_37 rfl 2 rfl ?_
        refine gf_Wo_32 E hO 12 rfl rfl d_Wo_savedWithEarlier_38 ?_
        refine g_iload_n E d_Wo_savedWithEarlier_41 rfl 3 rfl ?_
        refine g_aaload E hO 19 rfl (by omega) (by decide) d_Wo_savedWithEarlier_42 ?_
        refine g_iload E d_Wo_savedWithEarlier_43 0 rfl ?_
        refine g_ldN E hO (46 + k) (wC_g3 (by omega)) (by omega) (by decide) d_Wo_savedWithEarlier_45 ?_
        refine g_iadd E d_Wo_savedWithEarlier_46 ?_
        refine g_topi (nI_add _ _) ?_
        refine g_istore_n (lv' := [(3, .int (nI (acc + (sv k i)))), (4, .int (nI i)), (0, .ref (ad 12)), (1, .int (nI k)), (2, .int (nI S))]) E d_Wo_savedWithEarlier_47 rfl (by decide) rfl ?_
        refine g_iinc (lv' := [(4, .int (nI (i + 1))), (3, .int (nI (acc + (sv k i)))), (0, .ref (ad 12)), (1, .int (nI k)), (2, .int (nI S))]) E d_Wo_savedWithEarlier_48 1 rfl (nI_inc _) (by decide) rfl ?_
        refine g_goto E 5 d_Wo_savedWithEarlier_51 (by decide) ?_
        refine g_lv [0, 1, 2, 3, 4] rfl ?_
        exact ih_5 (i + 1, acc + (sv k i)) (⟨by (try dsimp only); omega, by (try dsimp only); rw [hI_5.2]; simp [sW, sumN, h2, h3]⟩) (by (try dsimp only); omega)

set_option maxHeartbeats 4000000 in
set_option maxRecDepth 100000 in
theorem C_Wo_spentInAll (l : Launch) {V : gV} {ad r1 r2 r3 : Nat → Nat} {nY : Nat} {ix bu : Nat → Nat} {np : Nat} {st sr : Nat → Nat} {sx tk : Nat → Nat → Nat} {rn sh sn : Nat → Nat} {yw nw : Nat} {yo ce wo : Nat → Nat} {po ne : Nat → Option Nat} {cs : Nat → Nat} {sv : Nat → Nat → Nat} {mk : Nat} {sp rs : Nat → Int} {bg dp : Nat} (hY : nY ≤ 12) : mPi l y_Wo_spentInAll (w_Wo_spentInAll :: gt) rm_Wo_spentInAll V (wC V ad r1 r2 r3 nY ix bu np st sr sx tk rn sh sn yw nw yo ce wo po ne cs sv mk sp rs bg dp) [.ref (ad 12)] (iI (sumZ sp nY)) := by
  refine gMet (V := V) (As := [.ref (ad 12)]) (cc := c_Wo_spentInAll) (maxL := 3) (ret := (some .int)) (by decide) rfl (Nat.le_of_ble_eq_true rfl) (fun a U h => ⟨h.1, h.2.2⟩) ?_
  intro p e s m below meth c E hr hlk hnm hv
  have hO := gO_r (locs1 := []) (ws := wC V ad r1 r2 r3 nY ix bu np st sr sx tk rn sh sn yw nw yo ce wo po ne cs sv mk sp rs bg dp) hv.2.1
  refine g_iconst (v := nI 0) E d_Wo_spentInAll_0 (by decide) ?_
  refine g_topi (nI_iI 0) ?_
  refine g_istore_n (lv' := [(1, .int (iI ((0 : Nat) : Int))), (0, .ref (ad 12))]) E d_Wo_spentInAll_1 rfl (by decide) rfl ?_
  refine g_iconst (v := nI 0) E d_Wo_spentInAll_2 (by decide) ?_
  refine g_istore_n (lv' := [(2, .int (nI 0)), (1, .int (iI ((0 : Nat) : Int))), (0, .ref (ad 12))]) E d_Wo_spentInAll_3 rfl (by decide) rfl ?_
  refine g_lv [0, 1, 2] rfl ?_
  refine gloop (α := Nat × Int) (fun a_ => gR s.heap []) (fun a_ => [(2, .int (nI a_.1)), (1, .int (iI a_.2)), (0, .ref (ad 12))]) (fun a_ => a_.1 ≤ nY ∧ a_.2 = sumZ sp a_.1) (fun a_ => nY - a_.1) (0, 0) (⟨Nat.zero_le _, rfl⟩) ?_
  rintro ⟨i, acc⟩ hI_4 ih_4
  try dsimp only at hI_4 ih_4 ⊢
  refine g_iload_n E d_Wo_spentInAll_4 rfl 0 rfl ?_
  refine g_aload_n E d_Wo_spentInAll_5 rfl 2 rfl ?_
  refine gf_Wo_40 E hO 12 rfl rfl d_Wo_spentInAll_6 ?_
  refine gf_Wo_68 E hO 1 rfl rfl d_Wo_spentInAll_9 ?_
  refine g_ncmp_ge E 30 d_Wo_spentInAll_12 (by decide) (by omega) (by omega) (fun h1 => ?_) (fun h1 => ?_)
  · refine g_iload_n E d_Wo_spentInAll_30 rfl 1 rfl ?_
    exact g_iret E hr hlk d_Wo_spentInAll_31 (gq_i (by rw [hI_4.2, show i = nY by omega]))
  · refine g_iload_n E d_Wo_spentInAll_15 rfl 1 rfl ?_
    refine g_aload_n E d_Wo_spentInAll_16 rfl 2 rfl ?_
    refine gf_Wo_37 E hO 12 rfl rfl d_Wo_spentInAll_17 ?_
    refine g_iload_n E d_Wo_spentInAll_20 rfl 0 rfl ?_
    refine g_ldI E hO 20 rfl (by omega) (by decide) d_Wo_spentInAll_21 ?_
    refine g_iadd E d_Wo_spentInAll_22 ?_
    refine g_topi (iI_add _ _) ?_
    refine g_istore_n (lv' := [(1, .int (iI (acc + (sp i)))), (2, .int (nI i)), (0, .ref (ad 12))]) E d_Wo_spentInAll_23 rfl (by decide) rfl ?_
    refine g_iinc (lv' := [(2, .int (nI (i + 1))), (1, .int (iI (acc + (sp i)))), (0, .ref (ad 12))]) E d_Wo_spentInAll_24 1 rfl (nI_inc _) (by decide) rfl ?_
    refine g_goto E 4 d_Wo_spentInAll_27 (by decide) ?_
    refine g_lv [0, 1, 2] rfl ?_
    exact ih_4 (i + 1, acc + (sp i)) (⟨by (try dsimp only); omega, by (try dsimp only); rw [hI_4.2]; rfl⟩) (by (try dsimp only); omega)

set_option maxHeartbeats 4000000 in
set_option maxRecDepth 100000 in
theorem C_Wo_spentOverBudgets (l : Launch) {V : gV} {ad r1 r2 r3 : Nat → Nat} {nY : Nat} {ix bu : Nat → Nat} {np : Nat} {st sr : Nat → Nat} {sx tk : Nat → Nat → Nat} {rn sh sn : Nat → Nat} {yw nw : Nat} {yo ce wo : Nat → Nat} {po ne : Nat → Option Nat} {cs : Nat → Nat} {sv : Nat → Nat → Nat} {mk : Nat} {sp rs : Nat → Int} {bg dp : Nat} (hY : nY ≤ 12) (hsp : ∀ y, y < 12 → -100000000 ≤ sp y ∧ sp y ≤ 100000000) (hbu : ∀ y, bu y ≤ 1000000000) : mPi l y_Wo_spentOverBudgets (w_Wo_spentOverBudgets :: gt) rm_Wo_spentOverBudgets V (wC V ad r1 r2 r3 nY ix bu np st sr sx tk rn sh sn yw nw yo ce wo po ne cs sv mk sp rs bg dp) [.ref (ad 12)] (iI (oB bu sp nY)) := by
  refine gMet (V := V) (As := [.ref (ad 12)]) (cc := c_Wo_spentOverBudgets) (maxL := 3) (ret := (some .int)) (by decide) rfl (Nat.le_of_ble_eq_true rfl) (fun a U h => ⟨h.1, h.2.2⟩) ?_
  intro p e s m below meth c E hr hlk hnm hv
  have hO := gO_r (locs1 := []) (ws := wC V ad r1 r2 r3 nY ix bu np st sr sx tk rn sh sn yw nw yo ce wo po ne cs sv mk sp rs bg dp) hv.2.1
  refine g_iconst (v := nI 0) E d_Wo_spentOverBudgets_0 (by decide) ?_
  refine g_topi (nI_iI 0) ?_
  refine g_istore_n (lv' := [(1, .int (iI ((0 : Nat) : Int))), (0, .ref (ad 12))]) E d_Wo_spentOverBudgets_1 rfl (by decide) rfl ?_
  refine g_iconst (v := nI 0) E d_Wo_spentOverBudgets_2 (by decide) ?_
  refine g_istore_n (lv' := [(2, .int (nI 0)), (1, .int (iI ((0 : Nat) : Int))), (0, .ref (ad 12))]) E d_Wo_spentOverBudgets_3 rfl (by decide) rfl ?_
  refine g_lv [0, 1, 2] rfl ?_
  refine gloop (α := Nat × Int) (fun a_ => gR s.heap []) (fun a_ => [(2, .int (nI a_.1)), (1, .int (iI a_.2)), (0, .ref (ad 12))]) (fun a_ => a_.1 ≤ nY ∧ a_.2 = oB bu sp a_.1) (fun a_ => nY - a_.1) (0, 0) (⟨Nat.zero_le _, rfl⟩) ?_
  rintro ⟨i, acc⟩ hI_4 ih_4
  try dsimp only at hI_4 ih_4 ⊢
  refine g_iload_n E d_Wo_spentOverBudgets_4 rfl 0 rfl ?_
  refine g_aload_n E d_Wo_spentOverBudgets_5 rfl 2 rfl ?_
  refine gf_Wo_40 E hO 12 rfl rfl d_Wo_spentOverBudgets_6 ?_
  refine gf_Wo_68 E hO 1 rfl rfl d_Wo_spentOverBudgets_9 ?_
  refine g_ncmp_ge E 44 d_Wo_spentOverBudgets_12 (by decide) (by omega) (by omega) (fun h1 => ?_) (fun h1 => ?_)
  · refine g_iload_n E d_Wo_spentOverBudgets_44 rfl 1 rfl ?_
    exact g_iret E hr hlk d_Wo_spentOverBudgets_45 (gq_i (by rw [hI_4.2, show i = nY by omega]))
  · refine g_iload_n E d_Wo_spentOverBudgets_15 rfl 1 rfl ?_
    refine g_aload_n E d_Wo_spentOverBudgets_16 rfl 2 rfl ?_
    refine gf_Wo_37 E hO 12 rfl rfl d_Wo_spentOverBudgets_17 ?_
    refine g_iload_n E d_Wo_spentOverBudgets_20 rfl 0 rfl ?_
    refine g_ldI E hO 20 rfl (by omega) (by decide) d_Wo_spentOverBudgets_21 ?_
    refine g_aload_n E d_Wo_spentOverBudgets_22 rfl 2 rfl ?_
    refine gf_Wo_40 E hO 12 rfl rfl d_Wo_spentOverBudgets_23 ?_
    refine gf_Wo_74 E hO 1 rfl rfl d_Wo_spentOverBudgets_26 ?_
    refine g_iload_n E d_Wo_spentOverBudgets_29 rfl 0 rfl ?_
    refine g_ldN E hO 3 rfl (by omega) (by decide) d_Wo_spentOverBudgets_30 ?_
    have q1 := hsp i (by omega)
    have q2 := hbu i
    refine g_isub E d_Wo_spentOverBudgets_31 ?_
    refine g_topi (by rw [nI_iI, iI_sub]) ?_
    refine g_iconst (v := nI 0) E d_Wo_spentOverBudgets_32 (by decide) ?_
    refine g_maxI E kl_Wo_69 (Nat.le_of_ble_eq_true rfl) (Nat.le_of_ble_eq_true rfl) (Nat.zero_le _) (Nat.zero_le _) d_Wo_spentOverBudgets_33 ?_
    refine g_topi (max_mz (by omega) (by omega)) ?_
    refine g_iadd E d_Wo_spentOverBudgets_36 ?_
    refine g_topi (iI_add _ _) ?_
    refine g_istore_n (lv' := [(1, .int (iI (acc + (mz (sp i - (bu i : Int)))))), (2, .int (nI i)), (0, .ref (ad 12))]) E d_Wo_spentOverBudgets_37 rfl (by decide) rfl ?_
    refine g_iinc (lv' := [(2, .int (nI (i + 1))), (1, .int (iI (acc + (mz (sp i - (bu i : Int)))))), (0, .ref (ad 12))]) E d_Wo_spentOverBudgets_38 1 rfl (nI_inc _) (by decide) rfl ?_
    refine g_goto E 4 d_Wo_spentOverBudgets_41 (by decide) ?_
    refine g_lv [0, 1, 2] rfl ?_
    exact ih_4 (i + 1, acc + (mz (sp i - (bu i : Int)))) (⟨by (try dsimp only); omega, by (try dsimp only); rw [hI_4.2]; rfl⟩) (by (try dsimp only); omega)

set_option maxHeartbeats 4000000 in
set_option maxRecDepth 100000 in
theorem C_Wo_spend (l : Launch) {V : gV} {ad r1 r2 r3 : Nat → Nat} {nY : Nat} {ix bu : Nat → Nat} {np : Nat} {st sr : Nat → Nat} {sx tk : Nat → Nat → Nat} {rn sh sn : Nat → Nat} {yw nw : Nat} {yo ce wo : Nat → Nat} {po ne : Nat → Option Nat} {cs : Nat → Nat} {sv : Nat → Nat → Nat} {mk : Nat} {sp rs : Nat → Int} {bg dp : Nat} (S : Nat) (hS : S < 1024) (hnw : nw ≤ 10) (hY : nY ≤ 12) (hyY : ∀ w, yo w < nY) (hyo : ∀ w, yo w < 12) (hix : ∀ y, ix y ≤ 2000) (hce : ∀ w, ce w ≤ 1000000) (hsv : ∀ a b, sv a b ≤ 1000000) : mWv l y_Wo_spend (w_Wo_spend :: gt) rm_Wo_spend V (wC V ad r1 r2 r3 nY ix bu np st sr sx tk rn sh sn yw nw yo ce wo po ne cs sv mk sp rs bg dp) [.ref (ad 12), .int (nI S)] (wC V ad r1 r2 r3 nY ix bu np st sr sx tk rn sh sn yw nw yo ce wo po ne cs sv mk (cS ix yo ce sv nw S) rs bg dp) 0 0 := by
  intro sz
  refine gMet (V := V) (As := [.ref (ad 12), .int (nI S)]) (cc := c_Wo_spend) (maxL := 4) (ret := none) (by decide) rfl (Nat.le_of_ble_eq_true rfl) (fun a U h => ⟨h.1, h.2.2.2.1⟩) ?_
  intro p e s m below meth c E hr hlk hnm hv
  refine g_toW (sz := sz) (w := wC V ad r1 r2 r3 nY ix bu np st sr sx tk rn sh sn yw nw yo ce wo po ne cs sv mk sp rs bg dp) hv.2.2.1 hv.2.2.2.2 ?_
  have hA0 : ∀ q : Nat, s.heap.size ≤ q → va_A (wC V ad r1 r2 r3 nY ix bu np st sr sx tk rn sh sn yw nw yo ce wo po ne cs sv mk sp rs bg dp) sz q := fun q h => Or.inr (by rw [← hv.2.1]; exact h)
  refine g_aload_n E d_Wo_spend_0 rfl 0 rfl ?_
  refine gf_Wo_37 E gO_w 12 rfl rfl d_Wo_spend_1 ?_
  refine g_iconst (v := nI 0) E d_Wo_spend_4 (by decide) ?_
  refine gwSv (As := [.ref (ad 20), .int (nI 0)]) (rest := []) (w' := wC V ad r1 r2 r3 nY ix bu np st sr sx tk rn sh sn yw nw yo ce wo po ne cs sv mk (fun _ => 0) rs bg dp) (mc := 0) (ms := 0) E hA0 (C_fill_sp l) (cs_Wo_55 E rfl rfl ⟨Nat.le_of_ble_eq_true rfl, Nat.le_of_ble_eq_true rfl⟩) rfl rfl (Nat.le_of_ble_eq_true rfl) ⟨Nat.zero_le _, Nat.zero_le _⟩ d_Wo_spend_5 ?_
  refine g_iconst (v := nI 0) E d_Wo_spend_8 (by decide) ?_
  refine g_istore_n (lv' := [(2, .int (nI 0)), (0, .ref (ad 12)), (1, .int (nI S))]) E d_Wo_spend_9 rfl (by decide) rfl ?_
  refine g_lv [0, 1, 2] rfl ?_
  refine gloop (α := Nat) (fun a_ => gW V _ _ (wC V ad r1 r2 r3 nY ix bu np st sr sx tk rn sh sn yw nw yo ce wo po ne cs sv mk (fun y => cR ix yo ce sv S y a_) rs bg dp)) (fun a_ => [(2, .int (nI a_)), (0, .ref (ad 12)), (1, .int (nI S))]) (fun a_ => a_ ≤ nw) (fun a_ => nw - a_) (0) (Nat.zero_le _) ?_
  rintro i hI_10 ih_10
  try dsimp only at hI_10 ih_10 ⊢
  refine g_iload_n E d_Wo_spend_10 rfl 0 rfl ?_
  refine g_aload_n E d_Wo_spend_11 rfl 1 rfl ?_
  refine gf_Wo_44 E gO_w 12 rfl rfl d_Wo_spend_12 ?_
  refine g_ncmp_ge E 69 d_Wo_spend_15 (by decide) (by omega) (by omega) (fun h1 => ?_) (fun h1 => ?_)
  · refine g_iconst (v := nI 0) E d_Wo_spend_69 (by decide) ?_
    refine g_istore_n (lv' := [(2, .int (nI 0)), (0, .ref (ad 12)), (1, .int (nI S))]) E d_Wo_spend_70 rfl (by decide) rfl ?_
    refine g_lv [0, 1, 2] rfl ?_
    refine g_ws (ws' := wC V ad r1 r2 r3 nY ix bu np st sr sx tk rn sh sn yw nw yo ce wo po ne cs sv mk (fun y => if y < 0 then mz (cR ix yo ce sv S y nw) else cR ix yo ce sv S y nw) rs bg dp) (by simp only [Nat.not_lt_zero, if_false]; rw [show i = nw by omega]) ?_
    refine gloop (α := Nat) (fun a_ => gW V _ _ (wC V ad r1 r2 r3 nY ix bu np st sr sx tk rn sh sn yw nw yo ce wo po ne cs sv mk (fun y => if y < a_ then mz (cR ix yo ce sv S y nw) else cR ix yo ce sv S y nw) rs bg dp)) (fun a_ => [(2, .int (nI a_)), (0, .ref (ad 12)), (1, .int (nI S))]) (fun a_ => a_ ≤ nY) (fun a_ => nY - a_) (0) (Nat.zero_le _) ?_
    rintro i hI_71 ih_71
    try dsimp only at hI_71 ih_71 ⊢
    refine g_iload_n E d_Wo_spend_71 rfl 0 rfl ?_
    refine g_aload_n E d_Wo_spend_72 rfl 1 rfl ?_
    refine gf_Wo_40 E gO_w 12 rfl rfl d_Wo_spend_73 ?_
    refine gf_Wo_68 E gO_w 1 rfl rfl d_Wo_spend_76 ?_
    refine g_ncmp_ge E 104 d_Wo_spend_79 (by decide) (by omega) (by omega) (fun h2 => ?_) (fun h2 => ?_)
    · refine g_ws (ws' := wC V ad r1 r2 r3 nY ix bu np st sr sx tk rn sh sn yw nw yo ce wo po ne cs sv mk (cS ix yo ce sv nw S) rs bg dp) (by rw [show i = nY by omega, cS_all hyY]) ?_
      exact g_vret E hr hlk d_Wo_spend_104 (gq_wv (w1 := fun _ => wC V ad r1 r2 r3 nY ix bu np st sr sx tk rn sh sn yw nw yo ce wo po ne cs sv mk (cS ix yo ce sv nw S) rs bg dp) () trivial)
    · refine g_aload_n E d_Wo_spend_82 rfl 1 rfl ?_
      refine gf_Wo_37 E gO_w 12 rfl rfl d_Wo_spend_83 ?_
      refine g_iload_n E d_Wo_spend_86 rfl 0 rfl ?_
      refine g_aload_n E d_Wo_spend_87 rfl 1 rfl ?_
      refine gf_Wo_37 E gO_w 12 rfl rfl d_Wo_spend_88 ?_
      refine g_iload_n E d_Wo_spend_91 rfl 0 rfl ?_
      refine g_ldI E gO_w 20 rfl (by omega) (by decide) d_Wo_spend_92 ?_
      refine g_topi (by rw [if_neg (Nat.lt_irrefl i)]) ?_
      refine g_iconst (v := nI 0) E d_Wo_spend_93 (by decide) ?_
      have b1 := cR_abs (yo := yo) (ce := ce) (S := S) (y := i) hnw hix hce hsv
      refine g_maxI E kl_Wo_69 (Nat.le_of_ble_eq_true rfl) (Nat.le_of_ble_eq_true rfl) (Nat.zero_le _) (Nat.zero_le _) d_Wo_spend_94 ?_
      refine g_topi (max_mz (by omega) (by omega)) ?_
      refine g_stI (ws' := wC V ad r1 r2 r3 nY ix bu np st sr sx tk rn sh sn yw nw yo ce wo po ne cs sv mk (va_up (fun y => if y < i then mz (cR ix yo ce sv S y nw) else cR ix yo ce sv S y nw) i (mz (cR ix yo ce sv S i nw))) rs bg dp) E 20 rfl (by omega) (by decide) rfl d_Wo_spend_97 ?_
      refine g_iinc (lv' := [(2, .int (nI (i + 1))), (0, .ref (ad 12)), (1, .int (nI S))]) E d_Wo_spend_98 0 rfl (nI_inc _) (by decide) rfl ?_
      refine g_goto E 71 d_Wo_spend_101 (by decide) ?_
      refine g_lv [0, 1, 2] rfl ?_
      refine g_ws (ws' := wC V ad r1 r2 r3 nY ix bu np st sr sx tk rn sh sn yw nw yo ce wo po ne cs sv mk (fun y => if y < i + 1 then mz (cR ix yo ce sv S y nw) else cR ix yo ce sv S y nw) rs bg dp) (by rw [mz_up]) ?_
      exact ih_71 (i + 1) (by (try dsimp only); omega) (by (try dsimp only); omega)
  · refine g_iload_n E d_Wo_spend_18 rfl 2 rfl ?_
    refine g_iload_n E d_Wo_spend_19 rfl 0 rfl ?_
    refine gpNi (As := [.int (nI S), .int (nI i)]) (rest := []) E gO_w (C_CY_holds l S i (by omega) (by omega)) (cs_Wo_48 E rfl rfl ⟨Nat.le_of_ble_eq_true rfl, Nat.le_of_ble_eq_true rfl⟩) rfl rfl (Nat.le_of_ble_eq_true rfl) ⟨Nat.zero_le _, Nat.zero_le _⟩ d_Wo_spend_20 ?_
    refine g_bif_eq E 63 d_Wo_spend_23 (by decide) (fun h3 => ?_) (fun h3 => ?_)
    · refine g_iinc (lv' := [(2, .int (nI (i + 1))), (0, .ref (ad 12)), (1, .int (nI S))]) E d_Wo_spend_63 0 rfl (nI_inc _) (by decide) rfl ?_
      refine g_goto E 10 d_Wo_spend_66 (by decide) ?_
      refine g_lv [0, 1, 2] rfl ?_
      refine g_ws (ws' := wC V ad r1 r2 r3 nY ix bu np st sr sx tk rn sh sn yw nw yo ce wo po ne cs sv mk (fun y => cR ix yo ce sv S y (i + 1)) rs bg dp) (by rw [cR_no h3]) ?_
      exact ih_10 (i + 1) (by (try dsimp only); omega) (by (try dsimp only); omega)
    · have y1 := hyo i
      have y2 := hix (yo i)
      have y3 := hce i
      refine g_aload_n E d_Wo_spend_26 rfl 1 rfl ?_
      refine gf_Wo_11 E gO_w 12 rfl rfl d_Wo_spend_27 ?_
      refine g_iload_n E d_Wo_spend_30 rfl 0 rfl ?_
      refine g_ldN E gO_w 13 rfl (by omega) (by decide) d_Wo_spend_31 ?_
      refine g_istore_n (lv' := [(3, .int (nI (yo i))), (2, .int (nI i)), (0, .ref (ad 12)), (1, .int (nI S))]) E d_Wo_spend_32 rfl (by decide) rfl ?_
      refine g_aload_n E d_Wo_spend_33 rfl 2 rfl ?_
      refine gf_Wo_37 E gO_w 12 rfl rfl d_Wo_spend_34 ?_
      refine g_iload_n E d_Wo_spend_37 rfl 0 rfl ?_
      refine g_dup2 E d_Wo_spend_38 rfl rfl ?_
      refine g_ldI E gO_w 20 rfl (by omega) (by decide) d_Wo_spend_39 ?_
      refine g_aload_n E d_Wo_spend_40 rfl 2 rfl ?_
      refine gf_Wo_40 E gO_w 12 rfl rfl d_Wo_spend_41 ?_
      refine g_iload_n E d_Wo_spend_44 rfl 0 rfl ?_
      refine g_aload_n E d_Wo_spend_45 rfl 2 rfl ?_
      refine gf_Wo_15 E gO_w 12 rfl rfl d_Wo_spend_46 ?_
      refine g_iload_n E d_Wo_spend_49 rfl 1 rfl ?_
      refine g_ldN E gO_w 14 rfl (by omega) (by decide) d_Wo_spend_50 ?_
      refine gpVi (As := [.int (nI (yo i)), .int (nI (ce i))]) (rest := [.int (iI (cR ix yo ce sv S (yo i) i)), .int (nI (yo i)), .ref (ad 20)]) E gO_w 1 rfl rfl (C_Ye_costIn l (yo i) (ce i) (by omega) (by omega) (by omega)) (cs_Wo_61 E rfl rfl ⟨Nat.le_of_ble_eq_true rfl, Nat.le_of_ble_eq_true rfl⟩) rfl rfl (Nat.le_of_ble_eq_true rfl) ⟨Nat.zero_le _, Nat.zero_le _⟩ d_Wo_spend_51 ?_
      refine g_aload_n E d_Wo_spend_54 rfl 2 rfl ?_
      refine g_iload_n E d_Wo_spend_55 rfl 1 rfl ?_
      refine g_iload_n E d_Wo_spend_56 rfl 3 rfl ?_
      refine gpVi (As := [.int (nI i), .int (nI S)]) (rest := [.int (nI ((ce i) * ix (yo i) / 1000)), .int (iI (cR ix yo ce sv S (yo i) i)), .int (nI (yo i)), .ref (ad 20)]) E gO_w 12 rfl rfl (C_Wo_savedWithEarlier l i S (by omega) (by omega) hyo) (cs_Wo_65 E rfl rfl ⟨Nat.le_of_ble_eq_true rfl, Nat.le_of_ble_eq_true rfl⟩) rfl rfl (Nat.le_of_ble_eq_true rfl) ⟨Nat.zero_le _, Nat.zero_le _⟩ d_Wo_spend_57 ?_
      refine g_isub E d_Wo_spend_60 ?_
      refine g_topi (nI_subI _ _) ?_
      refine g_iadd E d_Wo_spend_61 ?_
      refine g_topi (iI_add _ _) ?_
      refine g_stI (ws' := wC V ad r1 r2 r3 nY ix bu np st sr sx tk rn sh sn yw nw yo ce wo po ne cs sv mk (va_up (fun y => cR ix yo ce sv S y i) (yo i) ((cR ix yo ce sv S (yo i) i) + (((((ce i) * ix (yo i) / 1000) : Nat) : Int) - (((sW yo sv S i i) : Nat) : Int)))) rs bg dp) E 20 rfl (by omega) (by decide) rfl d_Wo_spend_62 ?_
      refine g_iinc (lv' := [(2, .int (nI (i + 1))), (3, .int (nI (yo i))), (0, .ref (ad 12)), (1, .int (nI S))]) E d_Wo_spend_63 1 rfl (nI_inc _) (by decide) rfl ?_
      refine g_goto E 10 d_Wo_spend_66 (by decide) ?_
      refine g_lv [0, 2, 3] rfl ?_
      refine g_ws (ws' := wC V ad r1 r2 r3 nY ix bu np st sr sx tk rn sh sn yw nw yo ce wo po ne cs sv mk (fun y => cR ix yo ce sv S y (i + 1)) rs bg dp) (by rw [cR_yes h3]) ?_
      exact ih_10 (i + 1) (by (try dsimp only); omega) (by (try dsimp only); omega)
