/-- the low n bits of an int -/
def xm (x : Int32) (n : Nat) : Nat := x.toBitVec.toNat % 2 ^ n
theorem xm_lt (x : Int32) {n : Nat} (hn : n ≤ 10) : xm x n < 1024 := by
  have h1 : 2 ^ n ≤ 2 ^ 10 := Nat.pow_le_pow_right (by decide) hn
  have h2 := Nat.mod_lt x.toBitVec.toNat (Nat.two_pow_pos n)
  unfold xm; omega
theorem x_all (x : Int32) {n : Nat} (hn : n ≤ 10) : x &&& nI (2 ^ n - 1) = nI (xm x n) := by
  have hp : 2 ^ n ≤ 2 ^ 10 := Nat.pow_le_pow_right (by decide) hn
  have hx := xm_lt x hn
  apply i32_ext
  apply BitVec.eq_of_toNat_eq
  rw [Int32.toBitVec_and, nI_bv, nI_bv, BitVec.toNat_and, BitVec.toNat_ofNat, BitVec.toNat_ofNat, Nat.mod_eq_of_lt (show 2 ^ n - 1 < 2 ^ 32 by omega), Nat.and_two_pow_sub_one_eq_mod, Nat.mod_eq_of_lt (show xm x n < 2 ^ 32 by omega)]
  rfl
/-- the first year of the first n in which f is below 0 -/
def fs0 (f : Nat → Int) : Nat → Option Nat
  | 0 => none
  | n + 1 => match fs0 f n with
    | some y => some y
    | none => if f n < 0 then some n else none
theorem fs0_no {f : Nat → Int} {n : Nat} (h : fs0 f n = none) (h2 : ¬ f n < 0) : fs0 f (n + 1) = none := by rw [fs0, h]; simp [h2]
theorem fs0_at {f : Nat → Int} {i : Nat} (h : fs0 f i = none) (h2 : f i < 0) : ∀ n, i < n → fs0 f n = some i
  | 0, h => absurd h (Nat.not_lt_zero _)
  | n + 1, hn => by
    by_cases e : i = n
    · subst e; rw [fs0, h]; simp [h2]
    · rw [fs0, fs0_at h h2 n (by omega)]
theorem rV_bd {ix st sr : Nat → Nat} {sx tk : Nat → Nat → Nat} {rn : Nat → Nat} {c : Nat → Int} {bg dp np y : Nat} (hnp : np ≤ 12) (hy : y < 12) (hdp : dp ≤ 1000000000) (hbg : bg ≤ 1000000000) (hc : ∀ y, 0 ≤ c y ∧ c y ≤ 100000000) (hsi : ∀ i, i < np → sr i < st i) (hM : ∀ i, i < np → ∀ a, a < st i → sumN (fun j => sx i (a * 4 + j)) (st i) = 16) (ht : ∀ i j, tk i j ≤ 1000) (hix : ∀ y, ix y ≤ 2000) :
    -100000000000 ≤ rV ix st sr sx tk rn c bg dp np y ∧ rV ix st sr sx tk rn c bg dp np y ≤ 100000000000 := by
  have h1 : ∀ z, z < 12 → -1100000000 ≤ dY ix st sr sx tk rn c dp np z ∧ dY ix st sr sx tk rn c dp np z ≤ 1100000000 := by
    intro z hz
    have h2 : ∀ i, i < np → 0 ≤ (cY ix st sr sx tk rn i z : Int) ∧ (cY ix st sr sx tk rn i z : Int) ≤ 2000 := by
      intro i hi
      have q1 := tkC_le (rn := rn i) (hsi i hi) (hM i hi) hz (ht i)
      have q2 := Nat.mul_le_mul q1 (hix z)
      have q3 : cY ix st sr sx tk rn i z ≤ 2000 := by unfold cY; omega
      omega
    have h3 := sumZ_bd (M := 2000) h2
    have h4 := hc z
    unfold dY
    omega
  have h2 := sumZ_abs (f := dY ix st sr sx tk rn c dp np) (M := 1100000000) (n := y + 1) (fun i hi => h1 i (by omega))
  unfold rV
  omega

set_option maxHeartbeats 4000000 in
set_option maxRecDepth 100000 in
theorem C_CY_work_n (l : Launch) {V : gV} {ad r1 r2 r3 : Nat → Nat} {nY : Nat} {ix bu : Nat → Nat} {np : Nat} {st sr : Nat → Nat} {sx tk : Nat → Nat → Nat} {rn sh sn : Nat → Nat} {yw nw : Nat} {yo ce wo : Nat → Nat} {po ne : Nat → Option Nat} {cs : Nat → Nat} {sv : Nat → Nat → Nat} {mk : Nat} {sp rs : Nat → Int} {bg dp : Nat} (y k v : Nat)  (hy : y < nY) (hY : nY ≤ 12) (h1 : 1 ≤ k) (h2 : k ≤ 1000000) (h3 : v ≤ 1000000) (hnw : nw < 10) : mWi l y_CY_work (w_CY_work :: gt) rm_CY_work V (wC V ad r1 r2 r3 nY ix bu np st sr sx tk rn sh sn yw nw yo ce wo po ne cs sv mk sp rs bg dp) [.ref (ad 0), .int (nI y), .int (nI k), .int (nI v), .int (oN none)] (nI nw) (wC V ad r1 r2 r3 nY ix bu np st sr sx tk rn sh sn yw (nw + 1) (va_up yo nw y) (va_up ce nw k) (va_up wo nw v) (va_up po nw none) (va_up ne nw none) cs sv mk sp rs bg dp) 0 0 := by
  intro sz
  refine gMet (V := V) (As := [.ref (ad 0), .int (nI y), .int (nI k), .int (nI v), .int (oN none)]) (cc := c_CY_work) (maxL := 5) (ret := (some .int)) (by decide) rfl (Nat.le_of_ble_eq_true rfl) (fun a U h => ⟨h.1, h.2.2.2.1⟩) ?_
  intro p e s m below meth c E hr hlk hnm hv
  refine g_toW (sz := sz) (w := wC V ad r1 r2 r3 nY ix bu np st sr sx tk rn sh sn yw nw yo ce wo po ne cs sv mk sp rs bg dp) hv.2.2.1 hv.2.2.2.2 ?_
  have hA0 : ∀ q : Nat, s.heap.size ≤ q → va_A (wC V ad r1 r2 r3 nY ix bu np st sr sx tk rn sh sn yw nw yo ce wo po ne cs sv mk sp rs bg dp) sz q := fun q h => Or.inr (by rw [← hv.2.1]; exact h)
  refine g_aload_n E d_CY_work_0 rfl 0 rfl ?_
  refine gf_CY_21 E gO_w 0 rfl rfl d_CY_work_1 ?_
  refine g_iload_n E d_CY_work_4 rfl 1 rfl ?_
  refine gpVi (As := [.int (nI y)]) (rest := []) E gO_w 1 rfl rfl (C_Ye_has l (nI y)) (cs_CY_47 E rfl rfl ⟨Nat.le_of_ble_eq_true rfl, Nat.le_of_ble_eq_true rfl⟩) rfl rfl (Nat.le_of_ble_eq_true rfl) ⟨Nat.zero_le _, Nat.zero_le _⟩ d_CY_work_5 ?_
  refine g_topi (show bI _ = nI 1 from by rw [inR_y (by omega) (by omega)]; rfl) ?_
  refine g_nif_eq E 33 d_CY_work_8 (by decide) (by decide) (fun h1 => absurd h1 (by decide)) (fun _ => ?_)
  refine g_iload E d_CY_work_11 4 rfl ?_
  refine g_iconst (v := oN none) E d_CY_work_13 (by decide) ?_
  refine g_icmp_eq E 29 d_CY_work_14 (by decide) (fun h2 => ?_) (fun h2 => ?_)
  · refine g_iconst (v := nI 1) E d_CY_work_29 (by decide) ?_
    refine g_goto E 34 d_CY_work_30 (by decide) ?_
    refine gpSv (As := [.int (nI 1)]) (rest := []) E gO_w (C_CY_refuseUnless l) (cs_CY_55 E rfl rfl ⟨Nat.le_of_ble_eq_true rfl, Nat.le_of_ble_eq_true rfl⟩) rfl rfl (Nat.le_of_ble_eq_true rfl) ⟨Nat.zero_le _, Nat.zero_le _⟩ d_CY_work_34 ?_
    refine g_iload_n E d_CY_work_37 rfl 2 rfl ?_
    refine g_iconst (v := nI 1) E d_CY_work_38 (by decide) ?_
    refine g_ldc E kk_CY_111 d_CY_work_39 ?_
    refine g_topi (show ((1000000) : Int32) = nI 1000000 from by decide) ?_
    refine gpSi (As := [.int (nI k), .int (nI 1), .int (nI 1000000)]) (rest := []) E gO_w (C_CY_isWithin l (nI k) (nI 1) (nI 1000000)) (cs_CY_51 E rfl rfl ⟨Nat.le_of_ble_eq_true rfl, Nat.le_of_ble_eq_true rfl⟩) rfl rfl (Nat.le_of_ble_eq_true rfl) ⟨Nat.zero_le _, Nat.zero_le _⟩ d_CY_work_41 ?_
    refine g_topi (show bI _ = nI 1 from by rw [inB_y (by omega) (by omega) (by omega)]; rfl) ?_
    refine g_nif_eq E 61 d_CY_work_44 (by decide) (by decide) (fun h3 => absurd h3 (by decide)) (fun _ => ?_)
    refine g_iload_n E d_CY_work_47 rfl 3 rfl ?_
    refine g_iconst (v := nI 0) E d_CY_work_48 (by decide) ?_
    refine g_ldc E kk_CY_111 d_CY_work_49 ?_
    refine g_topi (show ((1000000) : Int32) = nI 1000000 from by decide) ?_
    refine gpSi (As := [.int (nI v), .int (nI 0), .int (nI 1000000)]) (rest := []) E gO_w (C_CY_isWithin l (nI v) (nI 0) (nI 1000000)) (cs_CY_51 E rfl rfl ⟨Nat.le_of_ble_eq_true rfl, Nat.le_of_ble_eq_true rfl⟩) rfl rfl (Nat.le_of_ble_eq_true rfl) ⟨Nat.zero_le _, Nat.zero_le _⟩ d_CY_work_51 ?_
    refine g_topi (show bI _ = nI 1 from by rw [inB_y (by omega) (by omega) (by omega)]; rfl) ?_
    refine g_nif_eq E 61 d_CY_work_54 (by decide) (by decide) (fun h4 => absurd h4 (by decide)) (fun _ => ?_)
    refine g_iconst (v := nI 1) E d_CY_work_57 (by decide) ?_
    refine g_goto E 62 d_CY_work_58 (by decide) ?_
    refine gpSv (As := [.int (nI 1)]) (rest := []) E gO_w (C_CY_refuseUnless l) (cs_CY_55 E rfl rfl ⟨Nat.le_of_ble_eq_true rfl, Nat.le_of_ble_eq_true rfl⟩) rfl rfl (Nat.le_of_ble_eq_true rfl) ⟨Nat.zero_le _, Nat.zero_le _⟩ d_CY_work_62 ?_
    refine g_aload_n E d_CY_work_65 rfl 0 rfl ?_
    refine gf_CY_39 E gO_w 0 rfl rfl d_CY_work_66 ?_
    refine gf_CY_112 E gO_w 12 rfl rfl d_CY_work_69 ?_
    refine g_bipush (v := nI 10) E d_CY_work_72 (by decide) ?_
    refine g_ncmp_lt E 81 d_CY_work_74 (by decide) (by omega) (by omega) (fun h5 => ?_) (fun h5 => ?_)
    · refine g_iconst (v := nI 0) E d_CY_work_81 (by decide) ?_
      refine gpSv (As := [.int (nI 0)]) (rest := []) E gO_w (C_CY_refuseIfFull l) (cs_CY_71 E rfl rfl ⟨Nat.le_of_ble_eq_true rfl, Nat.le_of_ble_eq_true rfl⟩) rfl rfl (Nat.le_of_ble_eq_true rfl) ⟨Nat.zero_le _, Nat.zero_le _⟩ d_CY_work_82 ?_
      refine g_aload_n E d_CY_work_85 rfl 0 rfl ?_
      refine gf_CY_39 E gO_w 0 rfl rfl d_CY_work_86 ?_
      refine g_iload_n E d_CY_work_89 rfl 1 rfl ?_
      refine g_iload_n E d_CY_work_90 rfl 2 rfl ?_
      refine g_iload_n E d_CY_work_91 rfl 3 rfl ?_
      refine g_iload E d_CY_work_92 4 rfl ?_
      refine gwVi (As := [.int (nI y), .int (nI k), .int (nI v), .int (oN none)]) (rest := []) (w' := wC V ad r1 r2 r3 nY ix bu np st sr sx tk rn sh sn yw (nw + 1) (va_up yo nw y) (va_up ce nw k) (va_up wo nw v) (va_up po nw none) (va_up ne nw none) cs sv mk sp rs bg dp) (mc := 0) (ms := 0) E hA0 12 rfl rfl (C_Wo_add l y k v none (by omega)) (cs_CY_113 E rfl rfl ⟨Nat.le_of_ble_eq_true rfl, Nat.le_of_ble_eq_true rfl⟩) rfl rfl (Nat.le_of_ble_eq_true rfl) ⟨Nat.zero_le _, Nat.zero_le _⟩ d_CY_work_94 ?_
      exact g_iret E hr hlk d_CY_work_97 (gq_wi (w1 := fun _ => wC V ad r1 r2 r3 nY ix bu np st sr sx tk rn sh sn yw (nw + 1) (va_up yo nw y) (va_up ce nw k) (va_up wo nw v) (va_up po nw none) (va_up ne nw none) cs sv mk sp rs bg dp) () (rfl))
    · exact absurd h5 (by omega)
  · exact absurd rfl h2

set_option maxHeartbeats 4000000 in
set_option maxRecDepth 100000 in
theorem C_CY_work_s (l : Launch) {V : gV} {ad r1 r2 r3 : Nat → Nat} {nY : Nat} {ix bu : Nat → Nat} {np : Nat} {st sr : Nat → Nat} {sx tk : Nat → Nat → Nat} {rn sh sn : Nat → Nat} {yw nw : Nat} {yo ce wo : Nat → Nat} {po ne : Nat → Option Nat} {cs : Nat → Nat} {sv : Nat → Nat → Nat} {mk : Nat} {sp rs : Nat → Int} {bg dp : Nat} (y k v : Nat) (q : Nat) (hq : q < np) (hnp : np ≤ 12) (hy : y < nY) (hY : nY ≤ 12) (h1 : 1 ≤ k) (h2 : k ≤ 1000000) (h3 : v ≤ 1000000) (hnw : nw < 10) : mWi l y_CY_work (w_CY_work :: gt) rm_CY_work V (wC V ad r1 r2 r3 nY ix bu np st sr sx tk rn sh sn yw nw yo ce wo po ne cs sv mk sp rs bg dp) [.ref (ad 0), .int (nI y), .int (nI k), .int (nI v), .int (nI q)] (nI nw) (wC V ad r1 r2 r3 nY ix bu np st sr sx tk rn sh sn yw (nw + 1) (va_up yo nw y) (va_up ce nw k) (va_up wo nw v) (va_up po nw (some q)) (va_up ne nw none) cs sv mk sp rs bg dp) 0 0 := by
  intro sz
  refine gMet (V := V) (As := [.ref (ad 0), .int (nI y), .int (nI k), .int (nI v), .int (nI q)]) (cc := c_CY_work) (maxL := 5) (ret := (some .int)) (by decide) rfl (Nat.le_of_ble_eq_true rfl) (fun a U h => ⟨h.1, h.2.2.2.1⟩) ?_
  intro p e s m below meth c E hr hlk hnm hv
  refine g_toW (sz := sz) (w := wC V ad r1 r2 r3 nY ix bu np st sr sx tk rn sh sn yw nw yo ce wo po ne cs sv mk sp rs bg dp) hv.2.2.1 hv.2.2.2.2 ?_
  have hA0 : ∀ q : Nat, s.heap.size ≤ q → va_A (wC V ad r1 r2 r3 nY ix bu np st sr sx tk rn sh sn yw nw yo ce wo po ne cs sv mk sp rs bg dp) sz q := fun q h => Or.inr (by rw [← hv.2.1]; exact h)
  refine g_aload_n E d_CY_work_0 rfl 0 rfl ?_
  refine gf_CY_21 E gO_w 0 rfl rfl d_CY_work_1 ?_
  refine g_iload_n E d_CY_work_4 rfl 1 rfl ?_
  refine gpVi (As := [.int (nI y)]) (rest := []) E gO_w 1 rfl rfl (C_Ye_has l (nI y)) (cs_CY_47 E rfl rfl ⟨Nat.le_of_ble_eq_true rfl, Nat.le_of_ble_eq_true rfl⟩) rfl rfl (Nat.le_of_ble_eq_true rfl) ⟨Nat.zero_le _, Nat.zero_le _⟩ d_CY_work_5 ?_
  refine g_topi (show bI _ = nI 1 from by rw [inR_y (by omega) (by omega)]; rfl) ?_
  refine g_nif_eq E 33 d_CY_work_8 (by decide) (by decide) (fun h1 => absurd h1 (by decide)) (fun _ => ?_)
  refine g_iload E d_CY_work_11 4 rfl ?_
  refine g_iconst (v := oN none) E d_CY_work_13 (by decide) ?_
  refine g_icmp_eq E 29 d_CY_work_14 (by decide) (fun h2 => ?_) (fun h2 => ?_)
  · exact absurd h2 (by intro z; have := congrArg Int32.toInt z; rw [nI_toInt (by omega)] at this; have h2 : (oN none).toInt = -1 := (by decide); omega)
  · refine g_aload_n E d_CY_work_17 rfl 0 rfl ?_
    refine gf_CY_30 E gO_w 0 rfl rfl d_CY_work_18 ?_
    refine g_iload E d_CY_work_21 4 rfl ?_
    refine gpVi (As := [.int (nI q)]) (rest := []) E gO_w 4 rfl rfl (C_Pa_has l (nI q)) (cs_CY_100 E rfl rfl ⟨Nat.le_of_ble_eq_true rfl, Nat.le_of_ble_eq_true rfl⟩) rfl rfl (Nat.le_of_ble_eq_true rfl) ⟨Nat.zero_le _, Nat.zero_le _⟩ d_CY_work_23 ?_
    refine g_topi (show bI _ = nI 1 from by rw [inR_y (by omega) (by omega)]; rfl) ?_
    refine g_nif_eq E 33 d_CY_work_26 (by decide) (by decide) (fun h3 => absurd h3 (by decide)) (fun _ => ?_)
    refine g_iconst (v := nI 1) E d_CY_work_29 (by decide) ?_
    refine g_goto E 34 d_CY_work_30 (by decide) ?_
    refine gpSv (As := [.int (nI 1)]) (rest := []) E gO_w (C_CY_refuseUnless l) (cs_CY_55 E rfl rfl ⟨Nat.le_of_ble_eq_true rfl, Nat.le_of_ble_eq_true rfl⟩) rfl rfl (Nat.le_of_ble_eq_true rfl) ⟨Nat.zero_le _, Nat.zero_le _⟩ d_CY_work_34 ?_
    refine g_iload_n E d_CY_work_37 rfl 2 rfl ?_
    refine g_iconst (v := nI 1) E d_CY_work_38 (by decide) ?_
    refine g_ldc E kk_CY_111 d_CY_work_39 ?_
    refine g_topi (show ((1000000) : Int32) = nI 1000000 from by decide) ?_
    refine gpSi (As := [.int (nI k), .int (nI 1), .int (nI 1000000)]) (rest := []) E gO_w (C_CY_isWithin l (nI k) (nI 1) (nI 1000000)) (cs_CY_51 E rfl rfl ⟨Nat.le_of_ble_eq_true rfl, Nat.le_of_ble_eq_true rfl⟩) rfl rfl (Nat.le_of_ble_eq_true rfl) ⟨Nat.zero_le _, Nat.zero_le _⟩ d_CY_work_41 ?_
    refine g_topi (show bI _ = nI 1 from by rw [inB_y (by omega) (by omega) (by omega)]; rfl) ?_
    refine g_nif_eq E 61 d_CY_work_44 (by decide) (by decide) (fun h4 => absurd h4 (by decide)) (fun _ => ?_)
    refine g_iload_n E d_CY_work_47 rfl 3 rfl ?_
    refine g_iconst (v := nI 0) E d_CY_work_48 (by decide) ?_
    refine g_ldc E kk_CY_111 d_CY_work_49 ?_
    refine g_topi (show ((1000000) : Int32) = nI 1000000 from by decide) ?_
    refine gpSi (As := [.int (nI v), .int (nI 0), .int (nI 1000000)]) (rest := []) E gO_w (C_CY_isWithin l (nI v) (nI 0) (nI 1000000)) (cs_CY_51 E rfl rfl ⟨Nat.le_of_ble_eq_true rfl, Nat.le_of_ble_eq_true rfl⟩) rfl rfl (Nat.le_of_ble_eq_true rfl) ⟨Nat.zero_le _, Nat.zero_le _⟩ d_CY_work_51 ?_
    refine g_topi (show bI _ = nI 1 from by rw [inB_y (by omega) (by omega) (by omega)]; rfl) ?_
    refine g_nif_eq E 61 d_CY_work_54 (by decide) (by decide) (fun h5 => absurd h5 (by decide)) (fun _ => ?_)
    refine g_iconst (v := nI 1) E d_CY_work_57 (by decide) ?_
    refine g_goto E 62 d_CY_work_58 (by decide) ?_
    refine gpSv (As := [.int (nI 1)]) (rest := []) E gO_w (C_CY_refuseUnless l) (cs_CY_55 E rfl rfl ⟨Nat.le_of_ble_eq_true rfl, Nat.le_of_ble_eq_true rfl⟩) rfl rfl (Nat.le_of_ble_eq_true rfl) ⟨Nat.zero_le _, Nat.zero_le _⟩ d_CY_work_62 ?_
    refine g_aload_n E d_CY_work_65 rfl 0 rfl ?_
    refine gf_CY_39 E gO_w 0 rfl rfl d_CY_work_66 ?_
    refine gf_CY_112 E gO_w 12 rfl rfl d_CY_work_69 ?_
    refine g_bipush (v := nI 10) E d_CY_work_72 (by decide) ?_
    refine g_ncmp_lt E 81 d_CY_work_74 (by decide) (by omega) (by omega) (fun h6 => ?_) (fun h6 => ?_)
    · refine g_iconst (v := nI 0) E d_CY_work_81 (by decide) ?_
      refine gpSv (As := [.int (nI 0)]) (rest := []) E gO_w (C_CY_refuseIfFull l) (cs_CY_71 E rfl rfl ⟨Nat.le_of_ble_eq_true rfl, Nat.le_of_ble_eq_true rfl⟩) rfl rfl (Nat.le_of_ble_eq_true rfl) ⟨Nat.zero_le _, Nat.zero_le _⟩ d_CY_work_82 ?_
      refine g_aload_n E d_CY_work_85 rfl 0 rfl ?_
      refine gf_CY_39 E gO_w 0 rfl rfl d_CY_work_86 ?_
      refine g_iload_n E d_CY_work_89 rfl 1 rfl ?_
      refine g_iload_n E d_CY_work_90 rfl 2 rfl ?_
      refine g_iload_n E d_CY_work_91 rfl 3 rfl ?_
      refine g_iload E d_CY_work_92 4 rfl ?_
      refine gwVi (As := [.int (nI y), .int (nI k), .int (nI v), .int (nI q)]) (rest := []) (w' := wC V ad r1 r2 r3 nY ix bu np st sr sx tk rn sh sn yw (nw + 1) (va_up yo nw y) (va_up ce nw k) (va_up wo nw v) (va_up po nw (some q)) (va_up ne nw none) cs sv mk sp rs bg dp) (mc := 0) (ms := 0) E hA0 12 rfl rfl (C_Wo_add l y k v (some q) (by omega)) (cs_CY_113 E rfl rfl ⟨Nat.le_of_ble_eq_true rfl, Nat.le_of_ble_eq_true rfl⟩) rfl rfl (Nat.le_of_ble_eq_true rfl) ⟨Nat.zero_le _, Nat.zero_le _⟩ d_CY_work_94 ?_
      exact g_iret E hr hlk d_CY_work_97 (gq_wi (w1 := fun _ => wC V ad r1 r2 r3 nY ix bu np st sr sx tk rn sh sn yw (nw + 1) (va_up yo nw y) (va_up ce nw k) (va_up wo nw v) (va_up po nw (some q)) (va_up ne nw none) cs sv mk sp rs bg dp) () (rfl))
    · exact absurd h6 (by omega)

set_option maxHeartbeats 4000000 in
set_option maxRecDepth 100000 in
theorem C_CY_join (l : Launch) {V : gV} {ad r1 r2 r3 : Nat → Nat} {nY : Nat} {ix bu : Nat → Nat} {np : Nat} {st sr : Nat → Nat} {sx tk : Nat → Nat → Nat} {rn sh sn : Nat → Nat} {yw nw : Nat} {yo ce wo : Nat → Nat} {po ne : Nat → Option Nat} {cs : Nat → Nat} {sv : Nat → Nat → Nat} {mk : Nat} {sp rs : Nat → Int} {bg dp : Nat} (a b v : Nat) (ha : a < nw) (hb : b < nw) (hab : a ≠ b) (hnw : nw ≤ 10) (h2 : v ≤ 1000000) : mWi l y_CY_join (w_CY_join :: gt) rm_CY_join V (wC V ad r1 r2 r3 nY ix bu np st sr sx tk rn sh sn yw nw yo ce wo po ne cs sv mk sp rs bg dp) [.ref (ad 0), .int (nI a), .int (nI b), .int (nI v)] (nI (sv a b)) (wC V ad r1 r2 r3 nY ix bu np st sr sx tk rn sh sn yw nw yo ce wo po ne cs (mUp (mUp sv a b v) b a v) mk sp rs bg dp) 0 0 := by
  intro sz
  refine gMet (V := V) (As := [.ref (ad 0), .int (nI a), .int (nI b), .int (nI v)]) (cc := c_CY_join) (maxL := 5) (ret := (some .int)) (by decide) rfl (Nat.le_of_ble_eq_true rfl) (fun a U h => ⟨h.1, h.2.2.2.1⟩) ?_
  intro p e s m below meth c E hr hlk hnm hv
  refine g_toW (sz := sz) (w := wC V ad r1 r2 r3 nY ix bu np st sr sx tk rn sh sn yw nw yo ce wo po ne cs sv mk sp rs bg dp) hv.2.2.1 hv.2.2.2.2 ?_
  have hA0 : ∀ q : Nat, s.heap.size ≤ q → va_A (wC V ad r1 r2 r3 nY ix bu np st sr sx tk rn sh sn yw nw yo ce wo po ne cs sv mk sp rs bg dp) sz q := fun q h => Or.inr (by rw [← hv.2.1]; exact h)
  refine g_aload_n E d_CY_join_0 rfl 0 rfl ?_
  refine gf_CY_39 E gO_w 0 rfl rfl d_CY_join_1 ?_
  refine g_iload_n E d_CY_join_4 rfl 1 rfl ?_
  refine gpVi (As := [.int (nI a)]) (rest := []) E gO_w 12 rfl rfl (C_Wo_has l (nI a)) (cs_CY_116 E rfl rfl ⟨Nat.le_of_ble_eq_true rfl, Nat.le_of_ble_eq_true rfl⟩) rfl rfl (Nat.le_of_ble_eq_true rfl) ⟨Nat.zero_le _, Nat.zero_le _⟩ d_CY_join_5 ?_
  refine g_topi (show bI _ = nI 1 from by rw [inR_y (by omega) (by omega)]; rfl) ?_
  refine g_nif_eq E 31 d_CY_join_8 (by decide) (by decide) (fun h1 => absurd h1 (by decide)) (fun _ => ?_)
  refine g_aload_n E d_CY_join_11 rfl 0 rfl ?_
  refine gf_CY_39 E gO_w 0 rfl rfl d_CY_join_12 ?_
  refine g_iload_n E d_CY_join_15 rfl 2 rfl ?_
  refine gpVi (As := [.int (nI b)]) (rest := []) E gO_w 12 rfl rfl (C_Wo_has l (nI b)) (cs_CY_116 E rfl rfl ⟨Nat.le_of_ble_eq_true rfl, Nat.le_of_ble_eq_true rfl⟩) rfl rfl (Nat.le_of_ble_eq_true rfl) ⟨Nat.zero_le _, Nat.zero_le _⟩ d_CY_join_16 ?_
  refine g_topi (show bI _ = nI 1 from by rw [inR_y (by omega) (by omega)]; rfl) ?_
  refine g_nif_eq E 31 d_CY_join_19 (by decide) (by decide) (fun h2 => absurd h2 (by decide)) (fun _ => ?_)
  refine g_iload_n E d_CY_join_22 rfl 1 rfl ?_
  refine g_iload_n E d_CY_join_23 rfl 2 rfl ?_
  refine g_ncmp_eq E 31 d_CY_join_24 (by decide) (by omega) (by omega) (fun h3 => ?_) (fun h3 => ?_)
  · exact absurd h3 (by omega)
  · refine g_iconst (v := nI 1) E d_CY_join_27 (by decide) ?_
    refine g_goto E 32 d_CY_join_28 (by decide) ?_
    refine gpSv (As := [.int (nI 1)]) (rest := []) E gO_w (C_CY_refuseUnless l) (cs_CY_55 E rfl rfl ⟨Nat.le_of_ble_eq_true rfl, Nat.le_of_ble_eq_true rfl⟩) rfl rfl (Nat.le_of_ble_eq_true rfl) ⟨Nat.zero_le _, Nat.zero_le _⟩ d_CY_join_32 ?_
    refine g_iload_n E d_CY_join_35 rfl 3 rfl ?_
    refine g_iconst (v := nI 0) E d_CY_join_36 (by decide) ?_
    refine g_ldc E kk_CY_111 d_CY_join_37 ?_
    refine g_topi (show ((1000000) : Int32) = nI 1000000 from by decide) ?_
    refine gpSi (As := [.int (nI v), .int (nI 0), .int (nI 1000000)]) (rest := []) E gO_w (C_CY_isWithin l (nI v) (nI 0) (nI 1000000)) (cs_CY_51 E rfl rfl ⟨Nat.le_of_ble_eq_true rfl, Nat.le_of_ble_eq_true rfl⟩) rfl rfl (Nat.le_of_ble_eq_true rfl) ⟨Nat.zero_le _, Nat.zero_le _⟩ d_CY_join_39 ?_
    refine g_topi (show bI _ = nI 1 from by rw [inB_y (by omega) (by omega) (by omega)]; rfl) ?_
    refine gpSv (As := [.int (nI 1)]) (rest := []) E gO_w (C_CY_refuseUnless l) (cs_CY_55 E rfl rfl ⟨Nat.le_of_ble_eq_true rfl, Nat.le_of_ble_eq_true rfl⟩) rfl rfl (Nat.le_of_ble_eq_true rfl) ⟨Nat.zero_le _, Nat.zero_le _⟩ d_CY_join_42 ?_
    refine g_aload_n E d_CY_join_45 rfl 0 rfl ?_
    refine gf_CY_39 E gO_w 0 rfl rfl d_CY_join_46 ?_
    refine gf_CY_117 E gO_w 12 rfl rfl d_CY_join_49 ?_
    refine g_iload_n E d_CY_join_52 rfl 1 rfl ?_
    refine g_aaload E gO_w 19 rfl (by omega) (by decide) d_CY_join_53 ?_
    refine g_iload_n E d_CY_join_54 rfl 2 rfl ?_
    refine g_ldN E gO_w (46 + a) (wC_g3 (by omega)) (by omega) (by decide) d_CY_join_55 ?_
    refine g_istore (lv' := [(4, .int (nI (sv a b))), (0, .ref (ad 0)), (1, .int (nI a)), (2, .int (nI b)), (3, .int (nI v))]) E d_CY_join_56 (by decide) rfl ?_
    refine g_aload_n E d_CY_join_58 rfl 1 rfl ?_
    refine gf_CY_39 E gO_w 0 rfl rfl d_CY_join_59 ?_
    refine gf_CY_117 E gO_w 12 rfl rfl d_CY_join_62 ?_
    refine g_iload_n E d_CY_join_65 rfl 2 rfl ?_
    refine g_aaload E gO_w 19 rfl (by omega) (by decide) d_CY_join_66 ?_
    refine g_iload_n E d_CY_join_67 rfl 3 rfl ?_
    refine g_iload_n E d_CY_join_68 rfl 4 rfl ?_
    refine g_stN (ws' := wC V ad r1 r2 r3 nY ix bu np st sr sx tk rn sh sn yw nw yo ce wo po ne cs (mUp sv a b v) mk sp rs bg dp) E (46 + a) (wC_g3 (by omega)) (by omega) (by decide) (wC_s3 (by omega)) d_CY_join_69 ?_
    refine g_aload_n E d_CY_join_70 rfl 1 rfl ?_
    refine gf_CY_39 E gO_w 0 rfl rfl d_CY_join_71 ?_
    refine gf_CY_117 E gO_w 12 rfl rfl d_CY_join_74 ?_
    refine g_iload_n E d_CY_join_77 rfl 3 rfl ?_
    refine g_aaload E gO_w 19 rfl (by omega) (by decide) d_CY_join_78 ?_
    refine g_iload_n E d_CY_join_79 rfl 2 rfl ?_
    refine g_iload_n E d_CY_join_80 rfl 4 rfl ?_
    refine g_stN (ws' := wC V ad r1 r2 r3 nY ix bu np st sr sx tk rn sh sn yw nw yo ce wo po ne cs (mUp (mUp sv a b v) b a v) mk sp rs bg dp) E (46 + b) (wC_g3 (by omega)) (by omega) (by decide) (wC_s3 (by omega)) d_CY_join_81 ?_
    refine g_iload E d_CY_join_82 0 rfl ?_
    exact g_iret E hr hlk d_CY_join_84 (gq_wi (w1 := fun _ => wC V ad r1 r2 r3 nY ix bu np st sr sx tk rn sh sn yw nw yo ce wo po ne cs (mUp (mUp sv a b v) b a v) mk sp rs bg dp) () (rfl))

set_option maxHeartbeats 4000000 in
set_option maxRecDepth 100000 in
theorem C_CY_clash (l : Launch) {V : gV} {ad r1 r2 r3 : Nat → Nat} {nY : Nat} {ix bu : Nat → Nat} {np : Nat} {st sr : Nat → Nat} {sx tk : Nat → Nat → Nat} {rn sh sn : Nat → Nat} {yw nw : Nat} {yo ce wo : Nat → Nat} {po ne : Nat → Option Nat} {cs : Nat → Nat} {sv : Nat → Nat → Nat} {mk : Nat} {sp rs : Nat → Int} {bg dp : Nat} (a b : Nat) (q : Bool) (ha : a < nw) (hb : b < nw) (hab : a ≠ b) (hnw : nw ≤ 10) (hcs : ∀ w, cs w < 1024) : mWi l y_CY_clash (w_CY_clash :: gt) rm_CY_clash V (wC V ad r1 r2 r3 nY ix bu np st sr sx tk rn sh sn yw nw yo ce wo po ne cs sv mk sp rs bg dp) [.ref (ad 0), .int (nI a), .int (nI b), .int (bI q)] (bI ((cs a).testBit b)) (wC V ad r1 r2 r3 nY ix bu np st sr sx tk rn sh sn yw nw yo ce wo po ne (va_up (va_up cs a (sB (cs a) b q)) b (sB (cs b) a q)) sv mk sp rs bg dp) 0 0 := by
  intro sz
  refine gMet (V := V) (As := [.ref (ad 0), .int (nI a), .int (nI b), .int (bI q)]) (cc := c_CY_clash) (maxL := 5) (ret := (some .boolean)) (by decide) rfl (Nat.le_of_ble_eq_true rfl) (fun a U h => ⟨h.1, h.2.2.2.1⟩) ?_
  intro p e s m below meth c E hr hlk hnm hv
  refine g_toW (sz := sz) (w := wC V ad r1 r2 r3 nY ix bu np st sr sx tk rn sh sn yw nw yo ce wo po ne cs sv mk sp rs bg dp) hv.2.2.1 hv.2.2.2.2 ?_
  have hA0 : ∀ q : Nat, s.heap.size ≤ q → va_A (wC V ad r1 r2 r3 nY ix bu np st sr sx tk rn sh sn yw nw yo ce wo po ne cs sv mk sp rs bg dp) sz q := fun q h => Or.inr (by rw [← hv.2.1]; exact h)
  have c1 := hcs a
  refine g_aload_n E d_CY_clash_0 rfl 0 rfl ?_
  refine gf_CY_39 E gO_w 0 rfl rfl d_CY_clash_1 ?_
  refine g_iload_n E d_CY_clash_4 rfl 1 rfl ?_
  refine gpVi (As := [.int (nI a)]) (rest := []) E gO_w 12 rfl rfl (C_Wo_has l (nI a)) (cs_CY_116 E rfl rfl ⟨Nat.le_of_ble_eq_true rfl, Nat.le_of_ble_eq_true rfl⟩) rfl rfl (Nat.le_of_ble_eq_true rfl) ⟨Nat.zero_le _, Nat.zero_le _⟩ d_CY_clash_5 ?_
  refine g_topi (show bI _ = nI 1 from by rw [inR_y (by omega) (by omega)]; rfl) ?_
  refine g_nif_eq E 31 d_CY_clash_8 (by decide) (by decide) (fun h1 => absurd h1 (by decide)) (fun _ => ?_)
  refine g_aload_n E d_CY_clash_11 rfl 0 rfl ?_
  refine gf_CY_39 E gO_w 0 rfl rfl d_CY_clash_12 ?_
  refine g_iload_n E d_CY_clash_15 rfl 2 rfl ?_
  refine gpVi (As := [.int (nI b)]) (rest := []) E gO_w 12 rfl rfl (C_Wo_has l (nI b)) (cs_CY_116 E rfl rfl ⟨Nat.le_of_ble_eq_true rfl, Nat.le_of_ble_eq_true rfl⟩) rfl rfl (Nat.le_of_ble_eq_true rfl) ⟨Nat.zero_le _, Nat.zero_le _⟩ d_CY_clash_16 ?_
  refine g_topi (show bI _ = nI 1 from by rw [inR_y (by omega) (by omega)]; rfl) ?_
  refine g_nif_eq E 31 d_CY_clash_19 (by decide) (by decide) (fun h2 => absurd h2 (by decide)) (fun _ => ?_)
  refine g_iload_n E d_CY_clash_22 rfl 1 rfl ?_
  refine g_iload_n E d_CY_clash_23 rfl 2 rfl ?_
  refine g_ncmp_eq E 31 d_CY_clash_24 (by decide) (by omega) (by omega) (fun h3 => ?_) (fun h3 => ?_)
  · exact absurd h3 (by omega)
  · refine g_iconst (v := nI 1) E d_CY_clash_27 (by decide) ?_
    refine g_goto E 32 d_CY_clash_28 (by decide) ?_
    refine gpSv (As := [.int (nI 1)]) (rest := []) E gO_w (C_CY_refuseUnless l) (cs_CY_55 E rfl rfl ⟨Nat.le_of_ble_eq_true rfl, Nat.le_of_ble_eq_true rfl⟩) rfl rfl (Nat.le_of_ble_eq_true rfl) ⟨Nat.zero_le _, Nat.zero_le _⟩ d_CY_clash_32 ?_
    refine g_aload_n E d_CY_clash_35 rfl 0 rfl ?_
    refine gf_CY_39 E gO_w 0 rfl rfl d_CY_clash_36 ?_
    refine gf_CY_120 E gO_w 12 rfl rfl d_CY_clash_39 ?_
    refine g_iload_n E d_CY_clash_42 rfl 1 rfl ?_
    refine g_ldN E gO_w 18 rfl (by omega) (by decide) d_CY_clash_43 ?_
    refine g_iload_n E d_CY_clash_44 rfl 2 rfl ?_
    refine gpSi (As := [.int (nI (cs a)), .int (nI b)]) (rest := []) E gO_w (C_CY_holds l (cs a) b (by omega) (by omega)) (cs_CY_123 E rfl rfl ⟨Nat.le_of_ble_eq_true rfl, Nat.le_of_ble_eq_true rfl⟩) rfl rfl (Nat.le_of_ble_eq_true rfl) ⟨Nat.zero_le _, Nat.zero_le _⟩ d_CY_clash_45 ?_
    refine g_istore (lv' := [(4, .int (bI ((cs a).testBit b))), (0, .ref (ad 0)), (1, .int (nI a)), (2, .int (nI b)), (3, .int (bI q))]) E d_CY_clash_48 (by decide) rfl ?_
    refine g_aload_n E d_CY_clash_50 rfl 1 rfl ?_
    refine gf_CY_39 E gO_w 0 rfl rfl d_CY_clash_51 ?_
    refine gf_CY_120 E gO_w 12 rfl rfl d_CY_clash_54 ?_
    refine g_iload_n E d_CY_clash_57 rfl 2 rfl ?_
    refine g_aload_n E d_CY_clash_58 rfl 1 rfl ?_
    refine gf_CY_39 E gO_w 0 rfl rfl d_CY_clash_59 ?_
    refine gf_CY_120 E gO_w 12 rfl rfl d_CY_clash_62 ?_
    refine g_iload_n E d_CY_clash_65 rfl 2 rfl ?_
    refine g_ldN E gO_w 18 rfl (by omega) (by decide) d_CY_clash_66 ?_
    refine g_iload_n E d_CY_clash_67 rfl 3 rfl ?_
    refine g_iload_n E d_CY_clash_68 rfl 4 rfl ?_
    refine gpSi (As := [.int (nI (cs a)), .int (nI b), .int (bI q)]) (rest := [.int (nI a), .ref (ad 18)]) E gO_w (C_CY_withBit l (cs a) b q (by omega)) (cs_CY_126 E rfl rfl ⟨Nat.le_of_ble_eq_true rfl, Nat.le_of_ble_eq_true rfl⟩) rfl rfl (Nat.le_of_ble_eq_true rfl) ⟨Nat.zero_le _, Nat.zero_le _⟩ d_CY_clash_69 ?_
    refine g_stN (ws' := wC V ad r1 r2 r3 nY ix bu np st sr sx tk rn sh sn yw nw yo ce wo po ne (va_up cs a (sB (cs a) b q)) sv mk sp rs bg dp) E 18 rfl (by omega) (by decide) rfl d_CY_clash_72 ?_
    refine g_aload_n E d_CY_clash_73 rfl 1 rfl ?_
    refine gf_CY_39 E gO_w 0 rfl rfl d_CY_clash_74 ?_
    refine gf_CY_120 E gO_w 12 rfl rfl d_CY_clash_77 ?_
    refine g_iload_n E d_CY_clash_80 rfl 3 rfl ?_
    refine g_aload_n E d_CY_clash_81 rfl 1 rfl ?_
    refine gf_CY_39 E gO_w 0 rfl rfl d_CY_clash_82 ?_
    refine gf_CY_120 E gO_w 12 rfl rfl d_CY_clash_85 ?_
    refine g_iload_n E d_CY_clash_88 rfl 3 rfl ?_
    refine g_ldN E gO_w 18 rfl (by omega) (by decide) d_CY_clash_89 ?_
    refine g_topi (congrArg nI (va_up_ne _ _ (Ne.symm hab))) ?_
    refine g_iload_n E d_CY_clash_90 rfl 2 rfl ?_
    refine g_iload_n E d_CY_clash_91 rfl 4 rfl ?_
    refine gpSi (As := [.int (nI (cs b)), .int (nI a), .int (bI q)]) (rest := [.int (nI b), .ref (ad 18)]) E gO_w (C_CY_withBit l (cs b) a q (by omega)) (cs_CY_126 E rfl rfl ⟨Nat.le_of_ble_eq_true rfl, Nat.le_of_ble_eq_true rfl⟩) rfl rfl (Nat.le_of_ble_eq_true rfl) ⟨Nat.zero_le _, Nat.zero_le _⟩ d_CY_clash_92 ?_
    refine g_stN (ws' := wC V ad r1 r2 r3 nY ix bu np st sr sx tk rn sh sn yw nw yo ce wo po ne (va_up (va_up cs a (sB (cs a) b q)) b (sB (cs b) a q)) sv mk sp rs bg dp) E 18 rfl (by omega) (by decide) rfl d_CY_clash_95 ?_
    refine g_iload E d_CY_clash_96 0 rfl ?_
    exact g_zret E hr hlk d_CY_clash_98 (bI_01 _) (gq_wi (w1 := fun _ => wC V ad r1 r2 r3 nY ix bu np st sr sx tk rn sh sn yw nw yo ce wo po ne (va_up (va_up cs a (sB (cs a) b q)) b (sB (cs b) a q)) sv mk sp rs bg dp) () (rfl))

set_option maxHeartbeats 4000000 in
set_option maxRecDepth 100000 in
theorem C_CY_needs_n (l : Launch) {V : gV} {ad r1 r2 r3 : Nat → Nat} {nY : Nat} {ix bu : Nat → Nat} {np : Nat} {st sr : Nat → Nat} {sx tk : Nat → Nat → Nat} {rn sh sn : Nat → Nat} {yw nw : Nat} {yo ce wo : Nat → Nat} {po ne : Nat → Option Nat} {cs : Nat → Nat} {sv : Nat → Nat → Nat} {mk : Nat} {sp rs : Nat → Int} {bg dp : Nat} (a : Nat)  (ha : a < nw) (hnw : nw ≤ 10) : mWi l y_CY_needs (w_CY_needs :: gt) rm_CY_needs V (wC V ad r1 r2 r3 nY ix bu np st sr sx tk rn sh sn yw nw yo ce wo po ne cs sv mk sp rs bg dp) [.ref (ad 0), .int (nI a), .int (oN none)] (oN (ne a)) (wC V ad r1 r2 r3 nY ix bu np st sr sx tk rn sh sn yw nw yo ce wo po (va_up ne a none) cs sv mk sp rs bg dp) 0 0 := by
  intro sz
  refine gMet (V := V) (As := [.ref (ad 0), .int (nI a), .int (oN none)]) (cc := c_CY_needs) (maxL := 4) (ret := (some .int)) (by decide) rfl (Nat.le_of_ble_eq_true rfl) (fun a U h => ⟨h.1, h.2.2.2.1⟩) ?_
  intro p e s m below meth c E hr hlk hnm hv
  refine g_toW (sz := sz) (w := wC V ad r1 r2 r3 nY ix bu np st sr sx tk rn sh sn yw nw yo ce wo po ne cs sv mk sp rs bg dp) hv.2.2.1 hv.2.2.2.2 ?_
  have hA0 : ∀ q : Nat, s.heap.size ≤ q → va_A (wC V ad r1 r2 r3 nY ix bu np st sr sx tk rn sh sn yw nw yo ce wo po ne cs sv mk sp rs bg dp) sz q := fun q h => Or.inr (by rw [← hv.2.1]; exact h)
  refine g_aload_n E d_CY_needs_0 rfl 0 rfl ?_
  refine gf_CY_39 E gO_w 0 rfl rfl d_CY_needs_1 ?_
  refine g_iload_n E d_CY_needs_4 rfl 1 rfl ?_
  refine gpVi (As := [.int (nI a)]) (rest := []) E gO_w 12 rfl rfl (C_Wo_has l (nI a)) (cs_CY_116 E rfl rfl ⟨Nat.le_of_ble_eq_true rfl, Nat.le_of_ble_eq_true rfl⟩) rfl rfl (Nat.le_of_ble_eq_true rfl) ⟨Nat.zero_le _, Nat.zero_le _⟩ d_CY_needs_5 ?_
  refine g_topi (show bI _ = nI 1 from by rw [inR_y (by omega) (by omega)]; rfl) ?_
  refine g_nif_eq E 36 d_CY_needs_8 (by decide) (by decide) (fun h1 => absurd h1 (by decide)) (fun _ => ?_)
  refine g_iload_n E d_CY_needs_11 rfl 2 rfl ?_
  refine g_iconst (v := oN none) E d_CY_needs_12 (by decide) ?_
  refine g_icmp_eq E 27 d_CY_needs_13 (by decide) (fun h2 => ?_) (fun h2 => ?_)
  · refine g_iload_n E d_CY_needs_27 rfl 1 rfl ?_
    refine g_iload_n E d_CY_needs_28 rfl 2 rfl ?_
    refine g_icmp_eq E 36 d_CY_needs_29 (by decide) (fun h3 => ?_) (fun h3 => ?_)
    · exact absurd h3 (by intro z; have := congrArg Int32.toInt z; rw [nI_toInt (by omega)] at this; have h2 : (oN none).toInt = -1 := (by decide); omega)
    · refine g_iconst (v := nI 1) E d_CY_needs_32 (by decide) ?_
      refine g_goto E 37 d_CY_needs_33 (by decide) ?_
      refine gpSv (As := [.int (nI 1)]) (rest := []) E gO_w (C_CY_refuseUnless l) (cs_CY_55 E rfl rfl ⟨Nat.le_of_ble_eq_true rfl, Nat.le_of_ble_eq_true rfl⟩) rfl rfl (Nat.le_of_ble_eq_true rfl) ⟨Nat.zero_le _, Nat.zero_le _⟩ d_CY_needs_37 ?_
      refine g_aload_n E d_CY_needs_40 rfl 0 rfl ?_
      refine gf_CY_39 E gO_w 0 rfl rfl d_CY_needs_41 ?_
      refine gf_CY_130 E gO_w 12 rfl rfl d_CY_needs_44 ?_
      refine g_iload_n E d_CY_needs_47 rfl 1 rfl ?_
      refine g_ldO E gO_w 17 rfl (by omega) (by decide) d_CY_needs_48 ?_
      refine g_istore_n (lv' := [(3, .int (oN (ne a))), (0, .ref (ad 0)), (1, .int (nI a)), (2, .int (oN none))]) E d_CY_needs_49 rfl (by decide) rfl ?_
      refine g_aload_n E d_CY_needs_50 rfl 1 rfl ?_
      refine gf_CY_39 E gO_w 0 rfl rfl d_CY_needs_51 ?_
      refine gf_CY_130 E gO_w 12 rfl rfl d_CY_needs_54 ?_
      refine g_iload_n E d_CY_needs_57 rfl 2 rfl ?_
      refine g_iload_n E d_CY_needs_58 rfl 3 rfl ?_
      refine g_stO (ws' := wC V ad r1 r2 r3 nY ix bu np st sr sx tk rn sh sn yw nw yo ce wo po (va_up ne a none) cs sv mk sp rs bg dp) E 17 rfl (by omega) (by decide) rfl d_CY_needs_59 ?_
      refine g_iload_n E d_CY_needs_60 rfl 0 rfl ?_
      exact g_iret E hr hlk d_CY_needs_61 (gq_wi (w1 := fun _ => wC V ad r1 r2 r3 nY ix bu np st sr sx tk rn sh sn yw nw yo ce wo po (va_up ne a none) cs sv mk sp rs bg dp) () (rfl))
  · exact absurd rfl h2

set_option maxHeartbeats 4000000 in
set_option maxRecDepth 100000 in
theorem C_CY_needs_s (l : Launch) {V : gV} {ad r1 r2 r3 : Nat → Nat} {nY : Nat} {ix bu : Nat → Nat} {np : Nat} {st sr : Nat → Nat} {sx tk : Nat → Nat → Nat} {rn sh sn : Nat → Nat} {yw nw : Nat} {yo ce wo : Nat → Nat} {po ne : Nat → Option Nat} {cs : Nat → Nat} {sv : Nat → Nat → Nat} {mk : Nat} {sp rs : Nat → Int} {bg dp : Nat} (a : Nat) (q : Nat) (hq : q < nw) (haq : a ≠ q) (ha : a < nw) (hnw : nw ≤ 10) : mWi l y_CY_needs (w_CY_needs :: gt) rm_CY_needs V (wC V ad r1 r2 r3 nY ix bu np st sr sx tk rn sh sn yw nw yo ce wo po ne cs sv mk sp rs bg dp) [.ref (ad 0), .int (nI a), .int (nI q)] (oN (ne a)) (wC V ad r1 r2 r3 nY ix bu np st sr sx tk rn sh sn yw nw yo ce wo po (va_up ne a (some q)) cs sv mk sp rs bg dp) 0 0 := by
  intro sz
  refine gMet (V := V) (As := [.ref (ad 0), .int (nI a), .int (nI q)]) (cc := c_CY_needs) (maxL := 4) (ret := (some .int)) (by decide) rfl (Nat.le_of_ble_eq_true rfl) (fun a U h => ⟨h.1, h.2.2.2.1⟩) ?_
  intro p e s m below meth c E hr hlk hnm hv
  refine g_toW (sz := sz) (w := wC V ad r1 r2 r3 nY ix bu np st sr sx tk rn sh sn yw nw yo ce wo po ne cs sv mk sp rs bg dp) hv.2.2.1 hv.2.2.2.2 ?_
  have hA0 : ∀ q : Nat, s.heap.size ≤ q → va_A (wC V ad r1 r2 r3 nY ix bu np st sr sx tk rn sh sn yw nw yo ce wo po ne cs sv mk sp rs bg dp) sz q := fun q h => Or.inr (by rw [← hv.2.1]; exact h)
  refine g_aload_n E d_CY_needs_0 rfl 0 rfl ?_
  refine gf_CY_39 E gO_w 0 rfl rfl d_CY_needs_1 ?_
  refine g_iload_n E d_CY_needs_4 rfl 1 rfl ?_
  refine gpVi (As := [.int (nI a)]) (rest := []) E gO_w 12 rfl rfl (C_Wo_has l (nI a)) (cs_CY_116 E rfl rfl ⟨Nat.le_of_ble_eq_true rfl, Nat.le_of_ble_eq_true rfl⟩) rfl rfl (Nat.le_of_ble_eq_true rfl) ⟨Nat.zero_le _, Nat.zero_le _⟩ d_CY_needs_5 ?_
  refine g_topi (show bI _ = nI 1 from by rw [inR_y (by omega) (by omega)]; rfl) ?_
  refine g_nif_eq E 36 d_CY_needs_8 (by decide) (by decide) (fun h1 => absurd h1 (by decide)) (fun _ => ?_)
  refine g_iload_n E d_CY_needs_11 rfl 2 rfl ?_
  refine g_iconst (v := oN none) E d_CY_needs_12 (by decide) ?_
  refine g_icmp_eq E 27 d_CY_needs_13 (by decide) (fun h2 => ?_) (fun h2 => ?_)
  · exact absurd h2 (by intro z; have := congrArg Int32.toInt z; rw [nI_toInt (by omega)] at this; have h2 : (oN none).toInt = -1 := (by decide); omega)
  · refine g_aload_n E d_CY_needs_16 rfl 0 rfl ?_
    refine gf_CY_39 E gO_w 0 rfl rfl d_CY_needs_17 ?_
    refine g_iload_n E d_CY_needs_20 rfl 2 rfl ?_
    refine gpVi (As := [.int (nI q)]) (rest := []) E gO_w 12 rfl rfl (C_Wo_has l (nI q)) (cs_CY_116 E rfl rfl ⟨Nat.le_of_ble_eq_true rfl, Nat.le_of_ble_eq_true rfl⟩) rfl rfl (Nat.le_of_ble_eq_true rfl) ⟨Nat.zero_le _, Nat.zero_le _⟩ d_CY_needs_21 ?_
    refine g_topi (show bI _ = nI 1 from by rw [inR_y (by omega) (by omega)]; rfl) ?_
    refine g_nif_eq E 36 d_CY_needs_24 (by decide) (by decide) (fun h3 => absurd h3 (by decide)) (fun _ => ?_)
    refine g_iload_n E d_CY_needs_27 rfl 1 rfl ?_
    refine g_iload_n E d_CY_needs_28 rfl 2 rfl ?_
    refine g_ncmp_eq E 36 d_CY_needs_29 (by decide) (by omega) (by omega) (fun h4 => ?_) (fun h4 => ?_)
    · exact absurd h4 (by omega)
    · refine g_iconst (v := nI 1) E d_CY_needs_32 (by decide) ?_
      refine g_goto E 37 d_CY_needs_33 (by decide) ?_
      refine gpSv (As := [.int (nI 1)]) (rest := []) E gO_w (C_CY_refuseUnless l) (cs_CY_55 E rfl rfl ⟨Nat.le_of_ble_eq_true rfl, Nat.le_of_ble_eq_true rfl⟩) rfl rfl (Nat.le_of_ble_eq_true rfl) ⟨Nat.zero_le _, Nat.zero_le _⟩ d_CY_needs_37 ?_
      refine g_aload_n E d_CY_needs_40 rfl 0 rfl ?_
      refine gf_CY_39 E gO_w 0 rfl rfl d_CY_needs_41 ?_
      refine gf_CY_130 E gO_w 12 rfl rfl d_CY_needs_44 ?_
      refine g_iload_n E d_CY_needs_47 rfl 1 rfl ?_
      refine g_ldO E gO_w 17 rfl (by omega) (by decide) d_CY_needs_48 ?_
      refine g_istore_n (lv' := [(3, .int (oN (ne a))), (0, .ref (ad 0)), (1, .int (nI a)), (2, .int (nI q))]) E d_CY_needs_49 rfl (by decide) rfl ?_
      refine g_aload_n E d_CY_needs_50 rfl 1 rfl ?_
      refine gf_CY_39 E gO_w 0 rfl rfl d_CY_needs_51 ?_
      refine gf_CY_130 E gO_w 12 rfl rfl d_CY_needs_54 ?_
      refine g_iload_n E d_CY_needs_57 rfl 2 rfl ?_
      refine g_iload_n E d_CY_needs_58 rfl 3 rfl ?_
      refine g_topi (show nI q = oN (some q) from rfl) ?_
      refine g_stO (ws' := wC V ad r1 r2 r3 nY ix bu np st sr sx tk rn sh sn yw nw yo ce wo po (va_up ne a (some q)) cs sv mk sp rs bg dp) E 17 rfl (by omega) (by decide) rfl d_CY_needs_59 ?_
      refine g_iload_n E d_CY_needs_60 rfl 0 rfl ?_
      exact g_iret E hr hlk d_CY_needs_61 (gq_wi (w1 := fun _ => wC V ad r1 r2 r3 nY ix bu np st sr sx tk rn sh sn yw nw yo ce wo po (va_up ne a (some q)) cs sv mk sp rs bg dp) () (rfl))

theorem chN_lt {wv : Nat → Nat} {ag : Nat → Bool} {co ov : Nat → Int} : ∀ n, (chN wv ag co ov n).1 ≤ n
  | 0 => Nat.le_refl _
  | n + 1 => by
    have := chN_lt (wv := wv) (ag := ag) (co := co) (ov := ov) n
    unfold chN chS
    split <;> simp <;> omega
theorem chN_w {wv : Nat → Nat} {ag : Nat → Bool} {co ov : Nat → Int} (h0 : wv 0 = 0) : ∀ n, (chN wv ag co ov n).2.1 = wv (chN wv ag co ov n).1
  | 0 => h0.symm
  | n + 1 => by
    have := chN_w (wv := wv) (ag := ag) (co := co) (ov := ov) h0 n
    unfold chN chS
    split
    · rfl
    · exact this

set_option maxHeartbeats 4000000 in
set_option maxRecDepth 100000 in
theorem C_CY_choose (l : Launch) {V : gV} {ad r1 r2 r3 : Nat → Nat} {nY : Nat} {ix bu : Nat → Nat} {np : Nat} {st sr : Nat → Nat} {sx tk : Nat → Nat → Nat} {rn sh sn : Nat → Nat} {yw nw : Nat} {yo ce wo : Nat → Nat} {po ne : Nat → Option Nat} {cs : Nat → Nat} {sv : Nat → Nat → Nat} {mk : Nat} {sp rs : Nat → Int} {bg dp : Nat} (hnw : nw ≤ 10) (hY : nY ≤ 12) (hyY : ∀ w, yo w < nY) (hyo : ∀ w, yo w < 12) (hix : ∀ y, ix y ≤ 2000) (hce : ∀ w, ce w ≤ 1000000) (hsv : ∀ a b, sv a b ≤ 1000000) (hbu : ∀ y, bu y ≤ 1000000000) (hwo : ∀ w, wo w ≤ 1000000) (hcs : ∀ w, cs w < 1024) (hne : ∀ w q, ne w = some q → q < 10) (hpo : ∀ w q, po w = some q → q < 12) : mWi l y_CY_choose (w_CY_choose :: gt) rm_CY_choose V (wC V ad r1 r2 r3 nY ix bu np st sr sx tk rn sh sn yw nw yo ce wo po ne cs sv mk sp rs bg dp) [.ref (ad 0)] (nI (wS wo ((chN (fun S => wS wo S nw) (fun S => allN (agW cs ne yo S) nw) (fun S => sumZ (cS ix yo ce sv nw S) nY) (fun S => oB bu (cS ix yo ce sv nw S) nY) (2 ^ nw - 1)).1) nw)) (wC V ad r1 r2 r3 nY ix bu np st sr sx tk (rnN po yo ((chN (fun S => wS wo S nw) (fun S => allN (agW cs ne yo S) nw) (fun S => sumZ (cS ix yo ce sv nw S) nY) (fun S => oB bu (cS ix yo ce sv nw S) nY) (2 ^ nw - 1)).1) nw) sh sn yw nw yo ce wo po ne cs sv ((chN (fun S => wS wo S nw) (fun S => allN (agW cs ne yo S) nw) (fun S => sumZ (cS ix yo ce sv nw S) nY) (fun S => oB bu (cS ix yo ce sv nw S) nY) (2 ^ nw - 1)).1) (spN (fun S => wS wo S nw) (fun S => allN (agW cs ne yo S) nw) (fun S => sumZ (cS ix yo ce sv nw S) nY) (fun S => oB bu (cS ix yo ce sv nw S) nY) (cS ix yo ce sv nw) sp (2 ^ nw - 1)) rs bg dp) 0 0 := by
  intro sz
  refine gMet (V := V) (As := [.ref (ad 0)]) (cc := c_CY_choose) (maxL := 1) (ret := (some .int)) (by decide) rfl (Nat.le_of_ble_eq_true rfl) (fun a U h => ⟨h.1, h.2.2.2.1⟩) ?_
  intro p e s m below meth c E hr hlk hnm hv
  refine g_toW (sz := sz) (w := wC V ad r1 r2 r3 nY ix bu np st sr sx tk rn sh sn yw nw yo ce wo po ne cs sv mk sp rs bg dp) hv.2.2.1 hv.2.2.2.2 ?_
  have hA0 : ∀ q : Nat, s.heap.size ≤ q → va_A (wC V ad r1 r2 r3 nY ix bu np st sr sx tk rn sh sn yw nw yo ce wo po ne cs sv mk sp rs bg dp) sz q := fun q h => Or.inr (by rw [← hv.2.1]; exact h)
  have hp : 2 ^ nw ≤ 2 ^ 10 := Nat.pow_le_pow_right (by decide) hnw
  have hb := chN_lt (wv := (fun S => wS wo S nw)) (ag := (fun S => allN (agW cs ne yo S) nw)) (co := (fun S => sumZ (cS ix yo ce sv nw S) nY)) (ov := (fun S => oB bu (cS ix yo ce sv nw S) nY)) (2 ^ nw - 1)
  refine g_aload_n E d_CY_choose_0 rfl 0 rfl ?_
  refine gf_CY_39 E gO_w 0 rfl rfl d_CY_choose_1 ?_
  refine gwVv (As := []) (rest := []) (w' := wC V ad r1 r2 r3 nY ix bu np st sr sx tk rn sh sn yw nw yo ce wo po ne cs sv ((chN (fun S => wS wo S nw) (fun S => allN (agW cs ne yo S) nw) (fun S => sumZ (cS ix yo ce sv nw S) nY) (fun S => oB bu (cS ix yo ce sv nw S) nY) (2 ^ nw - 1)).1) (spN (fun S => wS wo S nw) (fun S => allN (agW cs ne yo S) nw) (fun S => sumZ (cS ix yo ce sv nw S) nY) (fun S => oB bu (cS ix yo ce sv nw S) nY) (cS ix yo ce sv nw) sp (2 ^ nw - 1)) rs bg dp) (mc := 0) (ms := 0) E hA0 12 rfl rfl (C_Wo_makeChoice l hnw hY hyY hyo hix hbu hce hwo hsv hcs hne) (cs_CY_133 E rfl rfl ⟨Nat.le_of_ble_eq_true rfl, Nat.le_of_ble_eq_true rfl⟩) rfl rfl (Nat.le_of_ble_eq_true rfl) ⟨Nat.zero_le _, Nat.zero_le _⟩ d_CY_choose_4 ?_
  refine g_aload_n E d_CY_choose_7 rfl 0 rfl ?_
  refine gwVv (As := []) (rest := []) (w' := wC V ad r1 r2 r3 nY ix bu np st sr sx tk (rnN po yo ((chN (fun S => wS wo S nw) (fun S => allN (agW cs ne yo S) nw) (fun S => sumZ (cS ix yo ce sv nw S) nY) (fun S => oB bu (cS ix yo ce sv nw S) nY) (2 ^ nw - 1)).1) nw) sh sn yw nw yo ce wo po ne cs sv ((chN (fun S => wS wo S nw) (fun S => allN (agW cs ne yo S) nw) (fun S => sumZ (cS ix yo ce sv nw S) nY) (fun S => oB bu (cS ix yo ce sv nw S) nY) (2 ^ nw - 1)).1) (spN (fun S => wS wo S nw) (fun S => allN (agW cs ne yo S) nw) (fun S => sumZ (cS ix yo ce sv nw S) nY) (fun S => oB bu (cS ix yo ce sv nw S) nY) (cS ix yo ce sv nw) sp (2 ^ nw - 1)) rs bg dp) (mc := 0) (ms := 0) E hA0 0 rfl rfl (C_CY_renewParts l hnw (by omega) hyo hpo) (cs_CY_136 E rfl rfl ⟨Nat.le_of_ble_eq_true rfl, Nat.le_of_ble_eq_true rfl⟩) rfl rfl (Nat.le_of_ble_eq_true rfl) ⟨Nat.zero_le _, Nat.zero_le _⟩ d_CY_choose_8 ?_
  refine g_aload_n E d_CY_choose_11 rfl 0 rfl ?_
  refine gf_CY_39 E gO_w 0 rfl rfl d_CY_choose_12 ?_
  refine g_aload_n E d_CY_choose_15 rfl 0 rfl ?_
  refine gf_CY_39 E gO_w 0 rfl rfl d_CY_choose_16 ?_
  refine gf_CY_139 E gO_w 12 rfl rfl d_CY_choose_19 ?_
  refine gpVi (As := [.int (nI ((chN (fun S => wS wo S nw) (fun S => allN (agW cs ne yo S) nw) (fun S => sumZ (cS ix yo ce sv nw S) nY) (fun S => oB bu (cS ix yo ce sv nw S) nY) (2 ^ nw - 1)).1))]) (rest := []) E gO_w 12 rfl rfl (C_Wo_worthOf l ((chN (fun S => wS wo S nw) (fun S => allN (agW cs ne yo S) nw) (fun S => sumZ (cS ix yo ce sv nw S) nY) (fun S => oB bu (cS ix yo ce sv nw S) nY) (2 ^ nw - 1)).1) (by omega) (by omega)) (cs_CY_142 E rfl rfl ⟨Nat.le_of_ble_eq_true rfl, Nat.le_of_ble_eq_true rfl⟩) rfl rfl (Nat.le_of_ble_eq_true rfl) ⟨Nat.zero_le _, Nat.zero_le _⟩ d_CY_choose_22 ?_
  exact g_iret E hr hlk d_CY_choose_25 (gq_wi (w1 := fun _ => wC V ad r1 r2 r3 nY ix bu np st sr sx tk (rnN po yo ((chN (fun S => wS wo S nw) (fun S => allN (agW cs ne yo S) nw) (fun S => sumZ (cS ix yo ce sv nw S) nY) (fun S => oB bu (cS ix yo ce sv nw S) nY) (2 ^ nw - 1)).1) nw) sh sn yw nw yo ce wo po ne cs sv ((chN (fun S => wS wo S nw) (fun S => allN (agW cs ne yo S) nw) (fun S => sumZ (cS ix yo ce sv nw S) nY) (fun S => oB bu (cS ix yo ce sv nw S) nY) (2 ^ nw - 1)).1) (spN (fun S => wS wo S nw) (fun S => allN (agW cs ne yo S) nw) (fun S => sumZ (cS ix yo ce sv nw S) nY) (fun S => oB bu (cS ix yo ce sv nw S) nY) (cS ix yo ce sv nw) sp (2 ^ nw - 1)) rs bg dp) () (rfl))

set_option maxHeartbeats 4000000 in
set_option maxRecDepth 100000 in
theorem C_CY_chosen (l : Launch) {V : gV} {ad r1 r2 r3 : Nat → Nat} {nY : Nat} {ix bu : Nat → Nat} {np : Nat} {st sr : Nat → Nat} {sx tk : Nat → Nat → Nat} {rn sh sn : Nat → Nat} {yw nw : Nat} {yo ce wo : Nat → Nat} {po ne : Nat → Option Nat} {cs : Nat → Nat} {sv : Nat → Nat → Nat} {mk : Nat} {sp rs : Nat → Int} {bg dp : Nat} (a : Nat) (ha : a < nw) (hnw : nw ≤ 10) (hmk : mk < 1024) : mPi l y_CY_chosen (w_CY_chosen :: gt) rm_CY_chosen V (wC V ad r1 r2 r3 nY ix bu np st sr sx tk rn sh sn yw nw yo ce wo po ne cs sv mk sp rs bg dp) [.ref (ad 0), .int (nI a)] (bI (mk.testBit a)) := by
  refine gMet (V := V) (As := [.ref (ad 0), .int (nI a)]) (cc := c_CY_chosen) (maxL := 2) (ret := (some .boolean)) (by decide) rfl (Nat.le_of_ble_eq_true rfl) (fun a U h => ⟨h.1, h.2.2⟩) ?_
  intro p e s m below meth c E hr hlk hnm hv
  have hO := gO_r (locs1 := []) (ws := wC V ad r1 r2 r3 nY ix bu np st sr sx tk rn sh sn yw nw yo ce wo po ne cs sv mk sp rs bg dp) hv.2.1
  refine g_aload_n E d_CY_chosen_0 rfl 0 rfl ?_
  refine gf_CY_39 E hO 0 rfl rfl d_CY_chosen_1 ?_
  refine g_iload_n E d_CY_chosen_4 rfl 1 rfl ?_
  refine gpVi (As := [.int (nI a)]) (rest := []) E hO 12 rfl rfl (C_Wo_has l (nI a)) (cs_CY_116 E rfl rfl ⟨Nat.le_of_ble_eq_true rfl, Nat.le_of_ble_eq_true rfl⟩) rfl rfl (Nat.le_of_ble_eq_true rfl) ⟨Nat.zero_le _, Nat.zero_le _⟩ d_CY_chosen_5 ?_
  refine g_topi (show bI _ = nI 1 from by rw [inR_y (by omega) (by omega)]; rfl) ?_
  refine gpSv (As := [.int (nI 1)]) (rest := []) E hO (C_CY_refuseUnless l) (cs_CY_55 E rfl rfl ⟨Nat.le_of_ble_eq_true rfl, Nat.le_of_ble_eq_true rfl⟩) rfl rfl (Nat.le_of_ble_eq_true rfl) ⟨Nat.zero_le _, Nat.zero_le _⟩ d_CY_chosen_8 ?_
  refine g_aload_n E d_CY_chosen_11 rfl 0 rfl ?_
  refine gf_CY_39 E hO 0 rfl rfl d_CY_chosen_12 ?_
  refine gf_CY_139 E hO 12 rfl rfl d_CY_chosen_15 ?_
  refine g_iload_n E d_CY_chosen_18 rfl 1 rfl ?_
  refine gpSi (As := [.int (nI mk), .int (nI a)]) (rest := []) E hO (C_CY_holds l mk a (by omega) (by omega)) (cs_CY_123 E rfl rfl ⟨Nat.le_of_ble_eq_true rfl, Nat.le_of_ble_eq_true rfl⟩) rfl rfl (Nat.le_of_ble_eq_true rfl) ⟨Nat.zero_le _, Nat.zero_le _⟩ d_CY_chosen_19 ?_
  exact g_zret E hr hlk d_CY_chosen_22 (bI_01 _) (gq_i (rfl))

set_option maxHeartbeats 4000000 in
set_option maxRecDepth 100000 in
theorem C_CY_costs (l : Launch) {V : gV} {ad r1 r2 r3 : Nat → Nat} {nY : Nat} {ix bu : Nat → Nat} {np : Nat} {st sr : Nat → Nat} {sx tk : Nat → Nat → Nat} {rn sh sn : Nat → Nat} {yw nw : Nat} {yo ce wo : Nat → Nat} {po ne : Nat → Option Nat} {cs : Nat → Nat} {sv : Nat → Nat → Nat} {mk : Nat} {sp rs : Nat → Int} {bg dp : Nat} (y : Nat) (hy : y < nY) (hmk : mk < 1024) (hnw : nw ≤ 10) (hY : nY ≤ 12) (hyY : ∀ w, yo w < nY) (hyo : ∀ w, yo w < 12) (hix : ∀ y, ix y ≤ 2000) (hce : ∀ w, ce w ≤ 1000000) (hsv : ∀ a b, sv a b ≤ 1000000) : mWi l y_CY_costs (w_CY_costs :: gt) rm_CY_costs V (wC V ad r1 r2 r3 nY ix bu np st sr sx tk rn sh sn yw nw yo ce wo po ne cs sv mk sp rs bg dp) [.ref (ad 0), .int (nI y)] (iI (cS ix yo ce sv nw mk y)) (wC V ad r1 r2 r3 nY ix bu np st sr sx tk rn sh sn yw nw yo ce wo po ne cs sv mk (cS ix yo ce sv nw mk) rs bg dp) 0 0 := by
  intro sz
  refine gMet (V := V) (As := [.ref (ad 0), .int (nI y)]) (cc := c_CY_costs) (maxL := 2) (ret := (some .int)) (by decide) rfl (Nat.le_of_ble_eq_true rfl) (fun a U h => ⟨h.1, h.2.2.2.1⟩) ?_
  intro p e s m below meth c E hr hlk hnm hv
  refine g_toW (sz := sz) (w := wC V ad r1 r2 r3 nY ix bu np st sr sx tk rn sh sn yw nw yo ce wo po ne cs sv mk sp rs bg dp) hv.2.2.1 hv.2.2.2.2 ?_
  have hA0 : ∀ q : Nat, s.heap.size ≤ q → va_A (wC V ad r1 r2 r3 nY ix bu np st sr sx tk rn sh sn yw nw yo ce wo po ne cs sv mk sp rs bg dp) sz q := fun q h => Or.inr (by rw [← hv.2.1]; exact h)
  refine g_aload_n E d_CY_costs_0 rfl 0 rfl ?_
  refine gf_CY_21 E gO_w 0 rfl rfl d_CY_costs_1 ?_
  refine g_iload_n E d_CY_costs_4 rfl 1 rfl ?_
  refine gpVi (As := [.int (nI y)]) (rest := []) E gO_w 1 rfl rfl (C_Ye_has l (nI y)) (cs_CY_47 E rfl rfl ⟨Nat.le_of_ble_eq_true rfl, Nat.le_of_ble_eq_true rfl⟩) rfl rfl (Nat.le_of_ble_eq_true rfl) ⟨Nat.zero_le _, Nat.zero_le _⟩ d_CY_costs_5 ?_
  refine g_topi (show bI _ = nI 1 from by rw [inR_y (by omega) (by omega)]; rfl) ?_
  refine gpSv (As := [.int (nI 1)]) (rest := []) E gO_w (C_CY_refuseUnless l) (cs_CY_55 E rfl rfl ⟨Nat.le_of_ble_eq_true rfl, Nat.le_of_ble_eq_true rfl⟩) rfl rfl (Nat.le_of_ble_eq_true rfl) ⟨Nat.zero_le _, Nat.zero_le _⟩ d_CY_costs_8 ?_
  refine g_aload_n E d_CY_costs_11 rfl 0 rfl ?_
  refine gf_CY_39 E gO_w 0 rfl rfl d_CY_costs_12 ?_
  refine g_aload_n E d_CY_costs_15 rfl 0 rfl ?_
  refine gf_CY_39 E gO_w 0 rfl rfl d_CY_costs_16 ?_
  refine gf_CY_139 E gO_w 12 rfl rfl d_CY_costs_19 ?_
  refine gwVv (As := [.int (nI mk)]) (rest := []) (w' := wC V ad r1 r2 r3 nY ix bu np st sr sx tk rn sh sn yw nw yo ce wo po ne cs sv mk (cS ix yo ce sv nw mk) rs bg dp) (mc := 0) (ms := 0) E hA0 12 rfl rfl (C_Wo_spend l mk (by omega) (by omega) (by omega) hyY hyo hix hce hsv) (cs_CY_145 E rfl rfl ⟨Nat.le_of_ble_eq_true rfl, Nat.le_of_ble_eq_true rfl⟩) rfl rfl (Nat.le_of_ble_eq_true rfl) ⟨Nat.zero_le _, Nat.zero_le _⟩ d_CY_costs_22 ?_
  refine g_aload_n E d_CY_costs_25 rfl 0 rfl ?_
  refine gf_CY_39 E gO_w 0 rfl rfl d_CY_costs_26 ?_
  refine gf_CY_148 E gO_w 12 rfl rfl d_CY_costs_29 ?_
  refine g_iload_n E d_CY_costs_32 rfl 1 rfl ?_
  refine g_ldI E gO_w 20 rfl (by omega) (by decide) d_CY_costs_33 ?_
  exact g_iret E hr hlk d_CY_costs_34 (gq_wi (w1 := fun _ => wC V ad r1 r2 r3 nY ix bu np st sr sx tk rn sh sn yw nw yo ce wo po ne cs sv mk (cS ix yo ce sv nw mk) rs bg dp) () (by simp))

set_option maxHeartbeats 4000000 in
set_option maxRecDepth 100000 in
theorem C_CY_lacks_y (l : Launch) {V : gV} {ad r1 r2 r3 : Nat → Nat} {nY : Nat} {ix bu : Nat → Nat} {np : Nat} {st sr : Nat → Nat} {sx tk : Nat → Nat → Nat} {rn sh sn : Nat → Nat} {yw nw : Nat} {yo ce wo : Nat → Nat} {po ne : Nat → Option Nat} {cs : Nat → Nat} {sv : Nat → Nat → Nat} {mk : Nat} {sp rs : Nat → Int} {bg dp : Nat} (x : Int32) (hag : allN (agW cs ne yo (xm x nw)) nw = true) (hnw : nw ≤ 10) (hY : nY ≤ 12) (hyY : ∀ w, yo w < nY) (hyo : ∀ w, yo w < 12) (hix : ∀ y, ix y ≤ 2000) (hce : ∀ w, ce w ≤ 1000000) (hsv : ∀ a b, sv a b ≤ 1000000) (hbu : ∀ y, bu y ≤ 1000000000) (hwo : ∀ w, wo w ≤ 1000000) (hcs : ∀ w, cs w < 1024) (hne : ∀ w q, ne w = some q → q < 10) : mWi l y_CY_lacks (w_CY_lacks :: gt) rm_CY_lacks V (wC V ad r1 r2 r3 nY ix bu np st sr sx tk rn sh sn yw nw yo ce wo po ne cs sv mk sp rs bg dp) [.ref (ad 0), .int x] (iI (oB bu (cS ix yo ce sv nw (xm x nw)) nY)) (wC V ad r1 r2 r3 nY ix bu np st sr sx tk rn sh sn yw nw yo ce wo po ne cs sv mk (cS ix yo ce sv nw (xm x nw)) rs bg dp) 0 0 := by
  intro sz
  refine gMet (V := V) (As := [.ref (ad 0), .int x]) (cc := c_CY_lacks) (maxL := 3) (ret := (some .int)) (by decide) rfl (Nat.le_of_ble_eq_true rfl) (fun a U h => ⟨h.1, h.2.2.2.1⟩) ?_
  intro p e s m below meth c E hr hlk hnm hv
  refine g_toW (sz := sz) (w := wC V ad r1 r2 r3 nY ix bu np st sr sx tk rn sh sn yw nw yo ce wo po ne cs sv mk sp rs bg dp) hv.2.2.1 hv.2.2.2.2 ?_
  have hA0 : ∀ q : Nat, s.heap.size ≤ q → va_A (wC V ad r1 r2 r3 nY ix bu np st sr sx tk rn sh sn yw nw yo ce wo po ne cs sv mk sp rs bg dp) sz q := fun q h => Or.inr (by rw [← hv.2.1]; exact h)
  have hx := xm_lt x hnw
  have hsp : ∀ y, y < 12 → -100000000 ≤ cS ix yo ce sv nw (xm x nw) y ∧ cS ix yo ce sv nw (xm x nw) y ≤ 100000000 := fun y _ => by have := cS_abs (yo := yo) (ce := ce) (S := xm x nw) (y := y) hnw hix hce hsv; omega
  refine g_iload_n E d_CY_lacks_0 rfl 1 rfl ?_
  refine g_aload_n E d_CY_lacks_1 rfl 0 rfl ?_
  refine gf_CY_39 E gO_w 0 rfl rfl d_CY_lacks_2 ?_
  refine gpVi (As := []) (rest := [.int x]) E gO_w 12 rfl rfl (C_Wo_all l (by omega)) (cs_CY_151 E rfl rfl ⟨Nat.le_of_ble_eq_true rfl, Nat.le_of_ble_eq_true rfl⟩) rfl rfl (Nat.le_of_ble_eq_true rfl) ⟨Nat.zero_le _, Nat.zero_le _⟩ d_CY_lacks_5 ?_
  refine g_iand E d_CY_lacks_8 ?_
  refine g_topi (x_all x hnw) ?_
  refine g_istore_n (lv' := [(2, .int (nI (xm x nw))), (0, .ref (ad 0)), (1, .int x)]) E d_CY_lacks_9 rfl (by decide) rfl ?_
  refine g_aload_n E d_CY_lacks_10 rfl 1 rfl ?_
  refine gf_CY_39 E gO_w 0 rfl rfl d_CY_lacks_11 ?_
  refine g_iload_n E d_CY_lacks_14 rfl 0 rfl ?_
  refine gpVi (As := [.int (nI (xm x nw))]) (rest := []) E gO_w 12 rfl rfl (C_Wo_agree l (xm x nw) (by omega) (by omega) hcs hne hyo) (cs_CY_155 E rfl rfl ⟨Nat.le_of_ble_eq_true rfl, Nat.le_of_ble_eq_true rfl⟩) rfl rfl (Nat.le_of_ble_eq_true rfl) ⟨Nat.zero_le _, Nat.zero_le _⟩ d_CY_lacks_15 ?_
  refine g_topi (show bI _ = nI 1 from by rw [hag]; rfl) ?_
  refine g_nif_ne E 23 d_CY_lacks_18 (by decide) (by decide) (fun _ => ?_) (fun h1 => absurd h1 (by decide))
  refine g_aload_n E d_CY_lacks_23 rfl 1 rfl ?_
  refine gf_CY_39 E gO_w 0 rfl rfl d_CY_lacks_24 ?_
  refine g_iload_n E d_CY_lacks_27 rfl 0 rfl ?_
  refine gwVv (As := [.int (nI (xm x nw))]) (rest := []) (w' := wC V ad r1 r2 r3 nY ix bu np st sr sx tk rn sh sn yw nw yo ce wo po ne cs sv mk (cS ix yo ce sv nw (xm x nw)) rs bg dp) (mc := 0) (ms := 0) E hA0 12 rfl rfl (C_Wo_spend l (xm x nw) (by omega) (by omega) (by omega) hyY hyo hix hce hsv) (cs_CY_145 E rfl rfl ⟨Nat.le_of_ble_eq_true rfl, Nat.le_of_ble_eq_true rfl⟩) rfl rfl (Nat.le_of_ble_eq_true rfl) ⟨Nat.zero_le _, Nat.zero_le _⟩ d_CY_lacks_28 ?_
  refine g_aload_n E d_CY_lacks_31 rfl 1 rfl ?_
  refine gf_CY_39 E gO_w 0 rfl rfl d_CY_lacks_32 ?_
  refine gpVi (As := []) (rest := []) E gO_w 12 rfl rfl (C_Wo_spentOverBudgets l (by omega) hsp hbu) (cs_CY_158 E rfl rfl ⟨Nat.le_of_ble_eq_true rfl, Nat.le_of_ble_eq_true rfl⟩) rfl rfl (Nat.le_of_ble_eq_true rfl) ⟨Nat.zero_le _, Nat.zero_le _⟩ d_CY_lacks_35 ?_
  exact g_iret E hr hlk d_CY_lacks_38 (gq_wi (w1 := fun _ => wC V ad r1 r2 r3 nY ix bu np st sr sx tk rn sh sn yw nw yo ce wo po ne cs sv mk (cS ix yo ce sv nw (xm x nw)) rs bg dp) () (rfl))

set_option maxHeartbeats 4000000 in
set_option maxRecDepth 100000 in
theorem C_CY_lacks_n (l : Launch) {V : gV} {ad r1 r2 r3 : Nat → Nat} {nY : Nat} {ix bu : Nat → Nat} {np : Nat} {st sr : Nat → Nat} {sx tk : Nat → Nat → Nat} {rn sh sn : Nat → Nat} {yw nw : Nat} {yo ce wo : Nat → Nat} {po ne : Nat → Option Nat} {cs : Nat → Nat} {sv : Nat → Nat → Nat} {mk : Nat} {sp rs : Nat → Int} {bg dp : Nat} (x : Int32) (hag : allN (agW cs ne yo (xm x nw)) nw = false) (hnw : nw ≤ 10) (hY : nY ≤ 12) (hyY : ∀ w, yo w < nY) (hyo : ∀ w, yo w < 12) (hix : ∀ y, ix y ≤ 2000) (hce : ∀ w, ce w ≤ 1000000) (hsv : ∀ a b, sv a b ≤ 1000000) (hbu : ∀ y, bu y ≤ 1000000000) (hwo : ∀ w, wo w ≤ 1000000) (hcs : ∀ w, cs w < 1024) (hne : ∀ w q, ne w = some q → q < 10) : mWi l y_CY_lacks (w_CY_lacks :: gt) rm_CY_lacks V (wC V ad r1 r2 r3 nY ix bu np st sr sx tk rn sh sn yw nw yo ce wo po ne cs sv mk sp rs bg dp) [.ref (ad 0), .int x] (oN none) (wC V ad r1 r2 r3 nY ix bu np st sr sx tk rn sh sn yw nw yo ce wo po ne cs sv mk sp rs bg dp) 0 0 := by
  intro sz
  refine gMet (V := V) (As := [.ref (ad 0), .int x]) (cc := c_CY_lacks) (maxL := 3) (ret := (some .int)) (by decide) rfl (Nat.le_of_ble_eq_true rfl) (fun a U h => ⟨h.1, h.2.2.2.1⟩) ?_
  intro p e s m below meth c E hr hlk hnm hv
  refine g_toW (sz := sz) (w := wC V ad r1 r2 r3 nY ix bu np st sr sx tk rn sh sn yw nw yo ce wo po ne cs sv mk sp rs bg dp) hv.2.2.1 hv.2.2.2.2 ?_
  have hA0 : ∀ q : Nat, s.heap.size ≤ q → va_A (wC V ad r1 r2 r3 nY ix bu np st sr sx tk rn sh sn yw nw yo ce wo po ne cs sv mk sp rs bg dp) sz q := fun q h => Or.inr (by rw [← hv.2.1]; exact h)
  have hx := xm_lt x hnw
  have hsp : ∀ y, y < 12 → -100000000 ≤ cS ix yo ce sv nw (xm x nw) y ∧ cS ix yo ce sv nw (xm x nw) y ≤ 100000000 := fun y _ => by have := cS_abs (yo := yo) (ce := ce) (S := xm x nw) (y := y) hnw hix hce hsv; omega
  refine g_iload_n E d_CY_lacks_0 rfl 1 rfl ?_
  refine g_aload_n E d_CY_lacks_1 rfl 0 rfl ?_
  refine gf_CY_39 E gO_w 0 rfl rfl d_CY_lacks_2 ?_
  refine gpVi (As := []) (rest := [.int x]) E gO_w 12 rfl rfl (C_Wo_all l (by omega)) (cs_CY_151 E rfl rfl ⟨Nat.le_of_ble_eq_true rfl, Nat.le_of_ble_eq_true rfl⟩) rfl rfl (Nat.le_of_ble_eq_true rfl) ⟨Nat.zero_le _, Nat.zero_le _⟩ d_CY_lacks_5 ?_
  refine g_iand E d_CY_lacks_8 ?_
  refine g_topi (x_all x hnw) ?_
  refine g_istore_n (lv' := [(2, .int (nI (xm x nw))), (0, .ref (ad 0)), (1, .int x)]) E d_CY_lacks_9 rfl (by decide) rfl ?_
  refine g_aload_n E d_CY_lacks_10 rfl 1 rfl ?_
  refine gf_CY_39 E gO_w 0 rfl rfl d_CY_lacks_11 ?_
  refine g_iload_n E d_CY_lacks_14 rfl 0 rfl ?_
  refine gpVi (As := [.int (nI (xm x nw))]) (rest := []) E gO_w 12 rfl rfl (C_Wo_agree l (xm x nw) (by omega) (by omega) hcs hne hyo) (cs_CY_155 E rfl rfl ⟨Nat.le_of_ble_eq_true rfl, Nat.le_of_ble_eq_true rfl⟩) rfl rfl (Nat.le_of_ble_eq_true rfl) ⟨Nat.zero_le _, Nat.zero_le _⟩ d_CY_lacks_15 ?_
  refine g_topi (show bI _ = nI 0 from by rw [hag]; rfl) ?_
  refine g_nif_ne E 23 d_CY_lacks_18 (by decide) (by decide) (fun h1 => absurd h1 (by decide)) (fun _ => ?_)
  refine g_iconst (v := oN none) E d_CY_lacks_21 (by decide) ?_
  exact g_iret E hr hlk d_CY_lacks_22 (gq_wi (w1 := fun _ => wC V ad r1 r2 r3 nY ix bu np st sr sx tk rn sh sn yw nw yo ce wo po ne cs sv mk sp rs bg dp) () (rfl))

set_option maxHeartbeats 4000000 in
set_option maxRecDepth 100000 in
theorem C_CY_money (l : Launch) {V : gV} {ad r1 r2 r3 : Nat → Nat} {nY : Nat} {ix bu : Nat → Nat} {np : Nat} {st sr : Nat → Nat} {sx tk : Nat → Nat → Nat} {rn sh sn : Nat → Nat} {yw nw : Nat} {yo ce wo : Nat → Nat} {po ne : Nat → Option Nat} {cs : Nat → Nat} {sv : Nat → Nat → Nat} {mk : Nat} {sp rs : Nat → Int} {bg dp : Nat} (k v : Nat) (h1 : k ≤ 1000000000) (h2 : v ≤ 1000000000) : mWv l y_CY_money (w_CY_money :: gt) rm_CY_money V (wC V ad r1 r2 r3 nY ix bu np st sr sx tk rn sh sn yw nw yo ce wo po ne cs sv mk sp rs bg dp) [.ref (ad 0), .int (nI k), .int (nI v)] (wC V ad r1 r2 r3 nY ix bu np st sr sx tk rn sh sn yw nw yo ce wo po ne cs sv mk sp rs k v) 0 0 := by
  intro sz
  refine gMet (V := V) (As := [.ref (ad 0), .int (nI k), .int (nI v)]) (cc := c_CY_money) (maxL := 3) (ret := none) (by decide) rfl (Nat.le_of_ble_eq_true rfl) (fun a U h => ⟨h.1, h.2.2.2.1⟩) ?_
  intro p e s m below meth c E hr hlk hnm hv
  refine g_toW (sz := sz) (w := wC V ad r1 r2 r3 nY ix bu np st sr sx tk rn sh sn yw nw yo ce wo po ne cs sv mk sp rs bg dp) hv.2.2.1 hv.2.2.2.2 ?_
  have hA0 : ∀ q : Nat, s.heap.size ≤ q → va_A (wC V ad r1 r2 r3 nY ix bu np st sr sx tk rn sh sn yw nw yo ce wo po ne cs sv mk sp rs bg dp) sz q := fun q h => Or.inr (by rw [← hv.2.1]; exact h)
  refine g_iload_n E d_CY_money_0 rfl 1 rfl ?_
  refine g_iconst (v := nI 0) E d_CY_money_1 (by decide) ?_
  refine g_ldc E kk_CY_63 d_CY_money_2 ?_
  refine g_topi (show ((1000000000) : Int32) = nI 1000000000 from by decide) ?_
  refine gpSi (As := [.int (nI k), .int (nI 0), .int (nI 1000000000)]) (rest := []) E gO_w (C_CY_isWithin l (nI k) (nI 0) (nI 1000000000)) (cs_CY_51 E rfl rfl ⟨Nat.le_of_ble_eq_true rfl, Nat.le_of_ble_eq_true rfl⟩) rfl rfl (Nat.le_of_ble_eq_true rfl) ⟨Nat.zero_le _, Nat.zero_le _⟩ d_CY_money_4 ?_
  refine g_topi (show bI _ = nI 1 from by rw [inB_y (by omega) (by omega) (by omega)]; rfl) ?_
  refine g_nif_eq E 24 d_CY_money_7 (by decide) (by decide) (fun h1 => absurd h1 (by decide)) (fun _ => ?_)
  refine g_iload_n E d_CY_money_10 rfl 2 rfl ?_
  refine g_iconst (v := nI 0) E d_CY_money_11 (by decide) ?_
  refine g_ldc E kk_CY_63 d_CY_money_12 ?_
  refine g_topi (show ((1000000000) : Int32) = nI 1000000000 from by decide) ?_
  refine gpSi (As := [.int (nI v), .int (nI 0), .int (nI 1000000000)]) (rest := []) E gO_w (C_CY_isWithin l (nI v) (nI 0) (nI 1000000000)) (cs_CY_51 E rfl rfl ⟨Nat.le_of_ble_eq_true rfl, Nat.le_of_ble_eq_true rfl⟩) rfl rfl (Nat.le_of_ble_eq_true rfl) ⟨Nat.zero_le _, Nat.zero_le _⟩ d_CY_money_14 ?_
  refine g_topi (show bI _ = nI 1 from by rw [inB_y (by omega) (by omega) (by omega)]; rfl) ?_
  refine g_nif_eq E 24 d_CY_money_17 (by decide) (by decide) (fun h2 => absurd h2 (by decide)) (fun _ => ?_)
  refine g_iconst (v := nI 1) E d_CY_money_20 (by decide) ?_
  refine g_goto E 25 d_CY_money_21 (by decide) ?_
  refine gpSv (As := [.int (nI 1)]) (rest := []) E gO_w (C_CY_refuseUnless l) (cs_CY_55 E rfl rfl ⟨Nat.le_of_ble_eq_true rfl, Nat.le_of_ble_eq_true rfl⟩) rfl rfl (Nat.le_of_ble_eq_true rfl) ⟨Nat.zero_le _, Nat.zero_le _⟩ d_CY_money_25 ?_
  refine g_aload_n E d_CY_money_28 rfl 0 rfl ?_
  refine g_iload_n E d_CY_money_29 rfl 1 rfl ?_
  refine pf_CY_161 (ws' := wC V ad r1 r2 r3 nY ix bu np st sr sx tk rn sh sn yw nw yo ce wo po ne cs sv mk sp rs k dp) E 0 rfl rfl rfl (Nat.le_of_ble_eq_true rfl) rfl d_CY_money_30 ?_
  refine g_aload_n E d_CY_money_33 rfl 0 rfl ?_
  refine g_iload_n E d_CY_money_34 rfl 2 rfl ?_
  refine pf_CY_164 (ws' := wC V ad r1 r2 r3 nY ix bu np st sr sx tk rn sh sn yw nw yo ce wo po ne cs sv mk sp rs k v) E 0 rfl rfl rfl (Nat.le_of_ble_eq_true rfl) rfl d_CY_money_35 ?_
  exact g_vret E hr hlk d_CY_money_38 (gq_wv (w1 := fun _ => wC V ad r1 r2 r3 nY ix bu np st sr sx tk rn sh sn yw nw yo ce wo po ne cs sv mk sp rs k v) () trivial)

set_option maxHeartbeats 4000000 in
set_option maxRecDepth 100000 in
theorem C_CY_reserve (l : Launch) {V : gV} {ad r1 r2 r3 : Nat → Nat} {nY : Nat} {ix bu : Nat → Nat} {np : Nat} {st sr : Nat → Nat} {sx tk : Nat → Nat → Nat} {rn sh sn : Nat → Nat} {yw nw : Nat} {yo ce wo : Nat → Nat} {po ne : Nat → Option Nat} {cs : Nat → Nat} {sv : Nat → Nat → Nat} {mk : Nat} {sp rs : Nat → Int} {bg dp : Nat} (y : Nat) (hy : y < nY) (hnp : np ≤ 12) (hY : nY ≤ 12) (hnw : nw ≤ 10) (hmk : mk < 1024) (hyY : ∀ w, yo w < nY) (hyo : ∀ w, yo w < 12) (hce : ∀ w, ce w ≤ 1000000) (hsv : ∀ a b, sv a b ≤ 1000000) (hdp : dp ≤ 1000000000) (hbg : bg ≤ 1000000000) (hst : ∀ i, st i ≤ 4) (hsr : ∀ i, sr i < 4) (hsi : ∀ i, i < np → sr i < st i) (hM : ∀ i, i < np → ∀ a, a < st i → sumN (fun j => sx i (a * 4 + j)) (st i) = 16) (hrn : ∀ i, rn i < 4096) (hx : ∀ i j, sx i j ≤ 16) (ht : ∀ i j, tk i j ≤ 1000) (hix : ∀ y, ix y ≤ 2000) : mWl l y_CY_reserve (w_CY_reserve :: gt) rm_CY_reserve V (wC V ad r1 r2 r3 nY ix bu np st sr sx tk rn sh sn yw nw yo ce wo po ne cs sv mk sp rs bg dp) [.ref (ad 0), .int (nI y)] (lI (rV ix st sr sx tk rn (cS ix yo ce sv nw mk) bg dp np y)) (wC V ad r1 r2 r3 nY ix bu np st sr sx tk rn ((tE nY st sr sx rn sh sn yw np).1) ((tE nY st sr sx rn sh sn yw np).2.2) ((tE nY st sr sx rn sh sn yw np).2.1) nw yo ce wo po ne cs sv mk (cS ix yo ce sv nw mk) (fun j => if j < nY then rV ix st sr sx tk rn (cS ix yo ce sv nw mk) bg dp np j else rs j) bg dp) 0 0 := by
  intro sz
  refine gMet (V := V) (As := [.ref (ad 0), .int (nI y)]) (cc := c_CY_reserve) (maxL := 2) (ret := (some .long)) (by decide) rfl (Nat.le_of_ble_eq_true rfl) (fun a U h => ⟨h.1, h.2.2.2.1⟩) ?_
  intro p e s m below meth c E hr hlk hnm hv
  refine g_toW (sz := sz) (w := wC V ad r1 r2 r3 nY ix bu np st sr sx tk rn sh sn yw nw yo ce wo po ne cs sv mk sp rs bg dp) hv.2.2.1 hv.2.2.2.2 ?_
  have hA0 : ∀ q : Nat, s.heap.size ≤ q → va_A (wC V ad r1 r2 r3 nY ix bu np st sr sx tk rn sh sn yw nw yo ce wo po ne cs sv mk sp rs bg dp) sz q := fun q h => Or.inr (by rw [← hv.2.1]; exact h)
  refine g_aload_n E d_CY_reserve_0 rfl 0 rfl ?_
  refine gf_CY_21 E gO_w 0 rfl rfl d_CY_reserve_1 ?_
  refine g_iload_n E d_CY_reserve_4 rfl 1 rfl ?_
  refine gpVi (As := [.int (nI y)]) (rest := []) E gO_w 1 rfl rfl (C_Ye_has l (nI y)) (cs_CY_47 E rfl rfl ⟨Nat.le_of_ble_eq_true rfl, Nat.le_of_ble_eq_true rfl⟩) rfl rfl (Nat.le_of_ble_eq_true rfl) ⟨Nat.zero_le _, Nat.zero_le _⟩ d_CY_reserve_5 ?_
  refine g_topi (show bI _ = nI 1 from by rw [inR_y (by omega) (by omega)]; rfl) ?_
  refine gpSv (As := [.int (nI 1)]) (rest := []) E gO_w (C_CY_refuseUnless l) (cs_CY_55 E rfl rfl ⟨Nat.le_of_ble_eq_true rfl, Nat.le_of_ble_eq_true rfl⟩) rfl rfl (Nat.le_of_ble_eq_true rfl) ⟨Nat.zero_le _, Nat.zero_le _⟩ d_CY_reserve_8 ?_
  refine g_aload_n E d_CY_reserve_11 rfl 0 rfl ?_
  refine gwVv (As := []) (rest := []) (w' := wC V ad r1 r2 r3 nY ix bu np st sr sx tk rn ((tE nY st sr sx rn sh sn yw np).1) ((tE nY st sr sx rn sh sn yw np).2.2) ((tE nY st sr sx rn sh sn yw np).2.1) nw yo ce wo po ne cs sv mk (cS ix yo ce sv nw mk) (fun j => if j < nY then rV ix st sr sx tk rn (cS ix yo ce sv nw mk) bg dp np j else rs j) bg dp) (mc := 0) (ms := 0) E hA0 0 rfl rfl (C_CY_reckonReserves l hnp hY hnw hmk hyY hyo hce hsv hdp hbg hst hsr hsi hM hrn hx ht hix) (cs_CY_167 E rfl rfl ⟨Nat.le_of_ble_eq_true rfl, Nat.le_of_ble_eq_true rfl⟩) rfl rfl (Nat.le_of_ble_eq_true rfl) ⟨Nat.zero_le _, Nat.zero_le _⟩ d_CY_reserve_12 ?_
  refine g_aload_n E d_CY_reserve_15 rfl 0 rfl ?_
  refine gf_CY_43 E gO_w 0 rfl rfl d_CY_reserve_16 ?_
  refine g_iload_n E d_CY_reserve_19 rfl 1 rfl ?_
  refine g_ldJ E gO_w 21 rfl (by omega) (by decide) d_CY_reserve_20 ?_
  refine g_topl (show lI _ = lI _ from by rw [if_pos hy]) ?_
  exact g_lret E hr hlk d_CY_reserve_21 (gq_wl (w1 := fun _ => wC V ad r1 r2 r3 nY ix bu np st sr sx tk rn ((tE nY st sr sx rn sh sn yw np).1) ((tE nY st sr sx rn sh sn yw np).2.2) ((tE nY st sr sx rn sh sn yw np).2.1) nw yo ce wo po ne cs sv mk (cS ix yo ce sv nw mk) (fun j => if j < nY then rV ix st sr sx tk rn (cS ix yo ce sv nw mk) bg dp np j else rs j) bg dp) () (rfl))

set_option maxHeartbeats 4000000 in
set_option maxRecDepth 100000 in
theorem C_CY_shortIn (l : Launch) {V : gV} {ad r1 r2 r3 : Nat → Nat} {nY : Nat} {ix bu : Nat → Nat} {np : Nat} {st sr : Nat → Nat} {sx tk : Nat → Nat → Nat} {rn sh sn : Nat → Nat} {yw nw : Nat} {yo ce wo : Nat → Nat} {po ne : Nat → Option Nat} {cs : Nat → Nat} {sv : Nat → Nat → Nat} {mk : Nat} {sp rs : Nat → Int} {bg dp : Nat} (hnp : np ≤ 12) (hY : nY ≤ 12) (hnw : nw ≤ 10) (hmk : mk < 1024) (hyY : ∀ w, yo w < nY) (hyo : ∀ w, yo w < 12) (hce : ∀ w, ce w ≤ 1000000) (hsv : ∀ a b, sv a b ≤ 1000000) (hdp : dp ≤ 1000000000) (hbg : bg ≤ 1000000000) (hst : ∀ i, st i ≤ 4) (hsr : ∀ i, sr i < 4) (hsi : ∀ i, i < np → sr i < st i) (hM : ∀ i, i < np → ∀ a, a < st i → sumN (fun j => sx i (a * 4 + j)) (st i) = 16) (hrn : ∀ i, rn i < 4096) (hx : ∀ i j, sx i j ≤ 16) (ht : ∀ i j, tk i j ≤ 1000) (hix : ∀ y, ix y ≤ 2000) : mWi l y_CY_shortIn (w_CY_shortIn :: gt) rm_CY_shortIn V (wC V ad r1 r2 r3 nY ix bu np st sr sx tk rn sh sn yw nw yo ce wo po ne cs sv mk sp rs bg dp) [.ref (ad 0)] (oN (fs0 (rV ix st sr sx tk rn (cS ix yo ce sv nw mk) bg dp np) nY)) (wC V ad r1 r2 r3 nY ix bu np st sr sx tk rn ((tE nY st sr sx rn sh sn yw np).1) ((tE nY st sr sx rn sh sn yw np).2.2) ((tE nY st sr sx rn sh sn yw np).2.1) nw yo ce wo po ne cs sv mk (cS ix yo ce sv nw mk) (fun j => if j < nY then rV ix st sr sx tk rn (cS ix yo ce sv nw mk) bg dp np j else rs j) bg dp) 0 0 := by
  intro sz
  refine gMet (V := V) (As := [.ref (ad 0)]) (cc := c_CY_shortIn) (maxL := 2) (ret := (some .int)) (by decide) rfl (Nat.le_of_ble_eq_true rfl) (fun a U h => ⟨h.1, h.2.2.2.1⟩) ?_
  intro p e s m below meth c E hr hlk hnm hv
  refine g_toW (sz := sz) (w := wC V ad r1 r2 r3 nY ix bu np st sr sx tk rn sh sn yw nw yo ce wo po ne cs sv mk sp rs bg dp) hv.2.2.1 hv.2.2.2.2 ?_
  have hA0 : ∀ q : Nat, s.heap.size ≤ q → va_A (wC V ad r1 r2 r3 nY ix bu np st sr sx tk rn sh sn yw nw yo ce wo po ne cs sv mk sp rs bg dp) sz q := fun q h => Or.inr (by rw [← hv.2.1]; exact h)
  refine g_aload_n E d_CY_shortIn_0 rfl 0 rfl ?_
  refine gwVv (As := []) (rest := []) (w' := wC V ad r1 r2 r3 nY ix bu np st sr sx tk rn ((tE nY st sr sx rn sh sn yw np).1) ((tE nY st sr sx rn sh sn yw np).2.2) ((tE nY st sr sx rn sh sn yw np).2.1) nw yo ce wo po ne cs sv mk (cS ix yo ce sv nw mk) (fun j => if j < nY then rV ix st sr sx tk rn (cS ix yo ce sv nw mk) bg dp np j else rs j) bg dp) (mc := 0) (ms := 0) E hA0 0 rfl rfl (C_CY_reckonReserves l hnp hY hnw hmk hyY hyo hce hsv hdp hbg hst hsr hsi hM hrn hx ht hix) (cs_CY_167 E rfl rfl ⟨Nat.le_of_ble_eq_true rfl, Nat.le_of_ble_eq_true rfl⟩) rfl rfl (Nat.le_of_ble_eq_true rfl) ⟨Nat.zero_le _, Nat.zero_le _⟩ d_CY_shortIn_1 ?_
  refine g_iconst (v := nI 0) E d_CY_shortIn_4 (by decide) ?_
  refine g_istore_n (lv' := [(1, .int (nI 0)), (0, .ref (ad 0))]) E d_CY_shortIn_5 rfl (by decide) rfl ?_
  refine g_lv [0, 1] rfl ?_
  refine gloop (α := Nat) (fun a_ => gW V _ _ (wC V ad r1 r2 r3 nY ix bu np st sr sx tk rn ((tE nY st sr sx rn sh sn yw np).1) ((tE nY st sr sx rn sh sn yw np).2.2) ((tE nY st sr sx rn sh sn yw np).2.1) nw yo ce wo po ne cs sv mk (cS ix yo ce sv nw mk) (fun j => if j < nY then rV ix st sr sx tk rn (cS ix yo ce sv nw mk) bg dp np j else rs j) bg dp)) (fun a_ => [(1, .int (nI a_)), (0, .ref (ad 0))]) (fun a_ => a_ ≤ nY ∧ fs0 (rV ix st sr sx tk rn (cS ix yo ce sv nw mk) bg dp np) a_ = none) (fun a_ => nY - a_) (0) (⟨Nat.zero_le _, rfl⟩) ?_
  rintro y hI_6 ih_6
  try dsimp only at hI_6 ih_6 ⊢
  refine g_iload_n E d_CY_shortIn_6 rfl 0 rfl ?_
  refine g_aload_n E d_CY_shortIn_7 rfl 1 rfl ?_
  refine gf_CY_21 E gO_w 0 rfl rfl d_CY_shortIn_8 ?_
  refine gf_CY_170 E gO_w 1 rfl rfl d_CY_shortIn_11 ?_
  refine g_ncmp_ge E 36 d_CY_shortIn_14 (by decide) (by omega) (by omega) (fun h1 => ?_) (fun h1 => ?_)
  · refine g_iconst (v := oN none) E d_CY_shortIn_36 (by decide) ?_
    exact g_iret E hr hlk d_CY_shortIn_37 (gq_wi (w1 := fun _ => wC V ad r1 r2 r3 nY ix bu np st sr sx tk rn ((tE nY st sr sx rn sh sn yw np).1) ((tE nY st sr sx rn sh sn yw np).2.2) ((tE nY st sr sx rn sh sn yw np).2.1) nw yo ce wo po ne cs sv mk (cS ix yo ce sv nw mk) (fun j => if j < nY then rV ix st sr sx tk rn (cS ix yo ce sv nw mk) bg dp np j else rs j) bg dp) () (by rw [show nY = y by omega, hI_6.2]))
  · refine g_aload_n E d_CY_shortIn_17 rfl 1 rfl ?_
    refine gf_CY_43 E gO_w 0 rfl rfl d_CY_shortIn_18 ?_
    refine g_iload_n E d_CY_shortIn_21 rfl 0 rfl ?_
    refine g_ldJ E gO_w 21 rfl (by omega) (by decide) d_CY_shortIn_22 ?_
    refine g_topl (show lI _ = lI _ from by rw [if_pos (by omega)]) ?_
    refine g_lconst (v := lN 0) E d_CY_shortIn_23 (by decide) ?_
    have bb := rV_bd (c := cS ix yo ce sv nw mk) (rn := rn) (bg := bg) (dp := dp) (y := y) hnp (by omega) hdp hbg (fun y => cS_abs (yo := yo) (ce := ce) (S := mk) (y := y) hnw hix hce hsv) hsi hM ht hix
    refine g_lcmp E d_CY_shortIn_24 ?_
    refine g_if_ge E 30 d_CY_shortIn_25 (by decide) (fun h2 => ?_) (fun h2 => ?_)
    · rw [← Int32.not_lt, lg_lt, show lN 0 = lI 0 from lN_lI 0, lI_lt (by omega) (by omega) (by decide) (by decide)] at h2
      refine g_iinc (lv' := [(1, .int (nI (y + 1))), (0, .ref (ad 0))]) E d_CY_shortIn_30 0 rfl (nI_inc _) (by decide) rfl ?_
      refine g_goto E 6 d_CY_shortIn_33 (by decide) ?_
      refine g_lv [0, 1] rfl ?_
      exact ih_6 (y + 1) (⟨by (try dsimp only); omega, fs0_no hI_6.2 h2⟩) (by (try dsimp only); omega)
    · rw [← Int32.not_lt, lg_lt, show lN 0 = lI 0 from lN_lI 0, lI_lt (by omega) (by omega) (by decide) (by decide), Classical.not_not] at h2
      refine g_iload_n E d_CY_shortIn_28 rfl 0 rfl ?_
      exact g_iret E hr hlk d_CY_shortIn_29 (gq_wi (w1 := fun _ => wC V ad r1 r2 r3 nY ix bu np st sr sx tk rn ((tE nY st sr sx rn sh sn yw np).1) ((tE nY st sr sx rn sh sn yw np).2.2) ((tE nY st sr sx rn sh sn yw np).2.1) nw yo ce wo po ne cs sv mk (cS ix yo ce sv nw mk) (fun j => if j < nY then rV ix st sr sx tk rn (cS ix yo ce sv nw mk) bg dp np j else rs j) bg dp) () (by rw [fs0_at hI_6.2 h2 nY (by omega)]; rfl))

theorem isL_y {a b c : Nat} (h1 : 1 ≤ a) (h2 : a ≤ 1000000000) (h3 : b ≤ 2000) (h4 : 1 ≤ c) (h5 : c ≤ 30) : isL (nI a) (nI b) (nI c) = true := by
  rw [isL, inB_y h1 h2 (by decide), inB_y (Nat.zero_le _) h3 (by decide), inB_y h4 h5 (by decide)]; rfl
theorem lp_lt (k r n : Nat) : lpN k r n 31 + 1 ≤ 2 ^ 31 := by
  have h := lpN_lt k r n 31 (Nat.le_refl _)
  simpa using h

set_option maxHeartbeats 4000000 in
set_option maxRecDepth 100000 in
theorem C_CY_payment (l : Launch) {V : gV} {ad r1 r2 r3 : Nat → Nat} {nY : Nat} {ix bu : Nat → Nat} {np : Nat} {st sr : Nat → Nat} {sx tk : Nat → Nat → Nat} {rn sh sn : Nat → Nat} {yw nw : Nat} {yo ce wo : Nat → Nat} {po ne : Nat → Option Nat} {cs : Nat → Nat} {sv : Nat → Nat → Nat} {mk : Nat} {sp rs : Nat → Int} {bg dp : Nat} (k r n : Nat) (h1 : 1 ≤ k) (h2 : k ≤ 1000000000) (h3 : r ≤ 2000) (h4 : 1 ≤ n) (h5 : n ≤ 30) : mPi l y_CY_payment (w_CY_payment :: gt) rm_CY_payment V (wC V ad r1 r2 r3 nY ix bu np st sr sx tk rn sh sn yw nw yo ce wo po ne cs sv mk sp rs bg dp) [.ref (ad 0), .int (nI k), .int (nI r), .int (nI n)] (nI (lpN k r n 31 + 1)) := by
  refine gMet (V := V) (As := [.ref (ad 0), .int (nI k), .int (nI r), .int (nI n)]) (cc := c_CY_payment) (maxL := 4) (ret := (some .int)) (by decide) rfl (Nat.le_of_ble_eq_true rfl) (fun a U h => ⟨h.1, h.2.2⟩) ?_
  intro p e s m below meth c E hr hlk hnm hv
  have hO := gO_r (locs1 := []) (ws := wC V ad r1 r2 r3 nY ix bu np st sr sx tk rn sh sn yw nw yo ce wo po ne cs sv mk sp rs bg dp) hv.2.1
  refine g_iload_n E d_CY_payment_0 rfl 1 rfl ?_
  refine g_iload_n E d_CY_payment_1 rfl 2 rfl ?_
  refine g_iload_n E d_CY_payment_2 rfl 3 rfl ?_
  refine gpSi (As := [.int (nI k), .int (nI r), .int (nI n)]) (rest := []) E hO (C_Lo_isOne l (nI k) (nI r) (nI n)) (cs_CY_171 E rfl rfl ⟨Nat.le_of_ble_eq_true rfl, Nat.le_of_ble_eq_true rfl⟩) rfl rfl (Nat.le_of_ble_eq_true rfl) ⟨Nat.zero_le _, Nat.zero_le _⟩ d_CY_payment_3 ?_
  refine g_topi (show bI _ = nI 1 from by rw [isL_y (by omega) (by omega) (by omega) (by omega) (by omega)]; rfl) ?_
  refine gpSv (As := [.int (nI 1)]) (rest := []) E hO (C_CY_refuseUnless l) (cs_CY_55 E rfl rfl ⟨Nat.le_of_ble_eq_true rfl, Nat.le_of_ble_eq_true rfl⟩) rfl rfl (Nat.le_of_ble_eq_true rfl) ⟨Nat.zero_le _, Nat.zero_le _⟩ d_CY_payment_6 ?_
  refine g_iload_n E d_CY_payment_9 rfl 1 rfl ?_
  refine g_iload_n E d_CY_payment_10 rfl 2 rfl ?_
  refine g_iload_n E d_CY_payment_11 rfl 3 rfl ?_
  refine gpSi (As := [.int (nI k), .int (nI r), .int (nI n)]) (rest := []) E hO (C_Lo_leastPayment l k r n (by omega) (by omega) (by omega)) (cs_CY_176 E rfl rfl ⟨Nat.le_of_ble_eq_true rfl, Nat.le_of_ble_eq_true rfl⟩) rfl rfl (Nat.le_of_ble_eq_true rfl) ⟨Nat.zero_le _, Nat.zero_le _⟩ d_CY_payment_12 ?_
  exact g_iret E hr hlk d_CY_payment_15 (gq_i (rfl))

set_option maxHeartbeats 4000000 in
set_option maxRecDepth 100000 in
theorem C_CY_rest (l : Launch) {V : gV} {ad r1 r2 r3 : Nat → Nat} {nY : Nat} {ix bu : Nat → Nat} {np : Nat} {st sr : Nat → Nat} {sx tk : Nat → Nat → Nat} {rn sh sn : Nat → Nat} {yw nw : Nat} {yo ce wo : Nat → Nat} {po ne : Nat → Option Nat} {cs : Nat → Nat} {sv : Nat → Nat → Nat} {mk : Nat} {sp rs : Nat → Int} {bg dp : Nat} (k r n t : Nat) (h1 : 1 ≤ k) (h2 : k ≤ 1000000000) (h3 : r ≤ 2000) (h4 : 1 ≤ n) (h5 : n ≤ 30) (h6 : t ≤ n) (hlp : lpN k r n 31 + 1 < 2 ^ 31) : mPi l y_CY_rest (w_CY_rest :: gt) rm_CY_rest V (wC V ad r1 r2 r3 nY ix bu np st sr sx tk rn sh sn yw nw yo ce wo po ne cs sv mk sp rs bg dp) [.ref (ad 0), .int (nI k), .int (nI r), .int (nI n), .int (nI t)] (nI (rB k r (lpN k r n 31 + 1) t)) := by
  refine gMet (V := V) (As := [.ref (ad 0), .int (nI k), .int (nI r), .int (nI n), .int (nI t)]) (cc := c_CY_rest) (maxL := 5) (ret := (some .int)) (by decide) rfl (Nat.le_of_ble_eq_true rfl) (fun a U h => ⟨h.1, h.2.2⟩) ?_
  intro p e s m below meth c E hr hlk hnm hv
  have hO := gO_r (locs1 := []) (ws := wC V ad r1 r2 r3 nY ix bu np st sr sx tk rn sh sn yw nw yo ce wo po ne cs sv mk sp rs bg dp) hv.2.1
  have h7 := lp_lt k r n
  refine g_iload_n E d_CY_rest_0 rfl 1 rfl ?_
  refine g_iload_n E d_CY_rest_1 rfl 2 rfl ?_
  refine g_iload_n E d_CY_rest_2 rfl 3 rfl ?_
  refine gpSi (As := [.int (nI k), .int (nI r), .int (nI n)]) (rest := []) E hO (C_Lo_isOne l (nI k) (nI r) (nI n)) (cs_CY_171 E rfl rfl ⟨Nat.le_of_ble_eq_true rfl, Nat.le_of_ble_eq_true rfl⟩) rfl rfl (Nat.le_of_ble_eq_true rfl) ⟨Nat.zero_le _, Nat.zero_le _⟩ d_CY_rest_3 ?_
  refine g_topi (show bI _ = nI 1 from by rw [isL_y (by omega) (by omega) (by omega) (by omega) (by omega)]; rfl) ?_
  refine g_nif_eq E 23 d_CY_rest_6 (by decide) (by decide) (fun h1 => absurd h1 (by decide)) (fun _ => ?_)
  refine g_iload E d_CY_rest_9 4 rfl ?_
  refine g_iconst (v := nI 0) E d_CY_rest_11 (by decide) ?_
  refine g_iload_n E d_CY_rest_12 rfl 3 rfl ?_
  refine gpSi (As := [.int (nI t), .int (nI 0), .int (nI n)]) (rest := []) E hO (C_CY_isWithin l (nI t) (nI 0) (nI n)) (cs_CY_51 E rfl rfl ⟨Nat.le_of_ble_eq_true rfl, Nat.le_of_ble_eq_true rfl⟩) rfl rfl (Nat.le_of_ble_eq_true rfl) ⟨Nat.zero_le _, Nat.zero_le _⟩ d_CY_rest_13 ?_
  refine g_topi (show bI _ = nI 1 from by rw [inB_y (by omega) (by omega) (by omega)]; rfl) ?_
  refine g_nif_eq E 23 d_CY_rest_16 (by decide) (by decide) (fun h2 => absurd h2 (by decide)) (fun _ => ?_)
  refine g_iconst (v := nI 1) E d_CY_rest_19 (by decide) ?_
  refine g_goto E 24 d_CY_rest_20 (by decide) ?_
  refine gpSv (As := [.int (nI 1)]) (rest := []) E hO (C_CY_refuseUnless l) (cs_CY_55 E rfl rfl ⟨Nat.le_of_ble_eq_true rfl, Nat.le_of_ble_eq_true rfl⟩) rfl rfl (Nat.le_of_ble_eq_true rfl) ⟨Nat.zero_le _, Nat.zero_le _⟩ d_CY_rest_24 ?_
  refine g_iload E d_CY_rest_27 4 rfl ?_
  refine g_iload_n E d_CY_rest_29 rfl 1 rfl ?_
  refine g_iload_n E d_CY_rest_30 rfl 2 rfl ?_
  refine g_iload_n E d_CY_rest_31 rfl 1 rfl ?_
  refine g_iload_n E d_CY_rest_32 rfl 2 rfl ?_
  refine g_iload_n E d_CY_rest_33 rfl 3 rfl ?_
  refine gpSi (As := [.int (nI k), .int (nI r), .int (nI n)]) (rest := [.int (nI r), .int (nI k), .int (nI t)]) E hO (C_Lo_leastPayment l k r n (by omega) (by omega) (by omega)) (cs_CY_176 E rfl rfl ⟨Nat.le_of_ble_eq_true rfl, Nat.le_of_ble_eq_true rfl⟩) rfl rfl (Nat.le_of_ble_eq_true rfl) ⟨Nat.zero_le _, Nat.zero_le _⟩ d_CY_rest_34 ?_
  refine g_i2l E d_CY_rest_37 ?_
  refine g_topl (nI_l (by omega)) ?_
  refine gpSl (As := [.int (nI t), .int (nI k), .int (nI r), .long (lN (lpN k r n 31 + 1))]) (rest := []) E hO (C_Lo_restBehind l t k r (lpN k r n 31 + 1) (by omega) (by omega) (by omega) (by omega)) (cs_CY_179 E rfl rfl ⟨Nat.le_of_ble_eq_true rfl, Nat.le_of_ble_eq_true rfl⟩) rfl rfl (Nat.le_of_ble_eq_true rfl) ⟨Nat.zero_le _, Nat.zero_le _⟩ d_CY_rest_38 ?_
  refine g_l2i E d_CY_rest_41 ?_
  refine g_topi (lN_i _) ?_
  exact g_iret E hr hlk d_CY_rest_42 (gq_i (rfl))
