/-! The law's loop, its start, and the claim. -/
theorem sxF_0 {st go : Nat → Nat} : sxF 0 st go = fun _ _ => 0 := by funext i j; simp [sxF]
theorem tkF_0 : tkF (fun _ => 0) = fun _ _ => 0 := by funext i j; simp [tkF]
theorem svF_0 : svF (fun _ => 0) = fun _ _ => 0 := by funext i j; simp [svF]
theorem IV_0 {n : Nat} (h1 : 1 ≤ n) (h2 : n ≤ 12) : IV n (fun _ => 1000) (fun _ => 0) 0 (fun _ => 0) (fun _ => 0) (fun _ => 0) (fun _ => 0) 0 (fun _ => 0) (fun _ => 0) (fun _ => 0) (fun _ => some 0) (fun _ => some 0) (fun _ => 0) (fun _ => false) (fun _ => 0) 0 0 0 := by
  refine ⟨h1, h2, fun _ => by (dsimp only; omega), fun _ => by (dsimp only; omega), by omega, fun _ => by (dsimp only; omega), fun _ => by (dsimp only; omega), fun i hi => absurd hi (Nat.not_lt_zero _), ⟨fun i a _ => ?_, fun _ _ _ _ _ _ => rfl⟩, fun _ => by (dsimp only; omega), by omega, fun _ => by (dsimp only; omega), fun _ => by (dsimp only; omega), fun _ => by (dsimp only; omega), fun _ q hq => ?_, fun _ q hq => ?_, fun _ => by (dsimp only; omega), ⟨fun _ => by (dsimp only; omega), fun _ b _ => Nat.zero_testBit b, fun _ _ _ _ => rfl, fun _ _ => rfl⟩, by decide, by omega, by omega⟩
  · simp [lvN, sumN]
  · cases hq; omega
  · cases hq; omega
section CELL
variable {p : Program} {l : Launch} {e : Env} {R : Room} {s : State} {m : MethodId} {args : Array Value} {below : List Frame} {meth : Method} {c : Code} {V : gV} {nL : Nat} {Q : State → Prop} {cells slots : Nat} {lv : List (Nat × Value)} {pc : Nat} {rest : List Value} {cc : ByteArray} {own : String}
theorem g_scrR (E : gE p s m args c cc nL own V) {b L : Nat} {xs : Nat → Int32} (hX : va_X b L xs s s.heap) (hbl : b < s.heap.size) {i : Nat} (hi : i < L) (hL : L < 2 ^ 31) (hd : decode cc pc = .ok (.iaload, 1)) (k : gg p l e R s m args below meth c nL Q cells slots (gR s.heap []) lv (pc + 1) (.int (xs i) :: rest)) : gg p l e R s m args below meth c nL Q cells slots (gR s.heap []) lv pc (.int (nI i) :: .ref b :: rest) :=
  fun H locs ls ho hl => va_sld (A := fun _ => False) E.1 E.2.1 hX hbl (fun h => h) (by rw [ho.1, ho.2]; exact va_S.rf) (vp_in_nI hi hL) hd (by rw [nI_clamp (by omega)]; exact k H locs ls ho hl)
theorem g_slenR (E : gE p s m args c cc nL own V) {b L : Nat} {xs : Nat → Int32} (hX : va_X b L xs s s.heap) (hbl : b < s.heap.size) (hd : decode cc pc = .ok (.arraylength, 1)) (k : gg p l e R s m args below meth c nL Q cells slots (gR s.heap []) lv (pc + 1) (.int (nI L) :: rest)) : gg p l e R s m args below meth c nL Q cells slots (gR s.heap []) lv pc (.ref b :: rest) :=
  fun H locs ls ho hl => va_slen (A := fun _ => False) E.1 E.2.1 hX hbl (fun h => h) (by rw [ho.1, ho.2]; exact va_S.rf) hd (k H locs ls ho hl)
end CELL
def cCell (V : gV) (b L : Nat) (xs : Nat → Int32) : Array Value → State → Prop := va_Pc [.ref b, .int (nI 0)] (fun U => va_X b L xs U U.heap ∧ b < U.heap.size ∧ gK V U)
theorem cCell.blind {V : gV} {b L : Nat} {xs : Nat → Int32} : FrameBlind (cCell V b L xs) := fun _ U g mk q => ⟨q.1, va_X.moved (u := U) (Vm.Alike.refl U.vm) q.2.1, q.2.2.1, gK.vm (s := U) rfl q.2.2.2⟩
set_option maxHeartbeats 4000000 in
theorem C_La_cell (l : Launch) {V : gV} {b L : Nat} {xs : Nat → Int32} (hL : L ≤ 2561) : Met l y_La_cell (w_La_cell :: gt) rm_La_cell (cCell V b L xs) (vp_Si (fun r => r = if 0 < L then xs 0 else 0)) 0 0 (fun _ => False) := by
  refine gMet (V := V) (As := [.ref b, .int (nI 0)]) (cc := c_La_cell) (maxL := 2) (ret := (some .int)) (by decide) rfl (Nat.le_of_ble_eq_true rfl) (fun a U h => ⟨h.1, h.2.2.2⟩) ?_
  intro p e s m below meth c E hr hlk hnm hv
  refine g_iload_n E d_La_cell_0 rfl 1 rfl ?_
  refine g_aload_n E d_La_cell_1 rfl 0 rfl ?_
  refine g_slenR E hv.2.1 hv.2.2.1 d_La_cell_2 ?_
  refine g_ncmp_ge E 12 d_La_cell_3 (by decide) (by omega) (by omega) (fun h => ?_) (fun h => ?_)
  · refine g_iconst (v := nI 0) E d_La_cell_12 (by decide) ?_
    exact g_iret E hr hlk d_La_cell_13 (gq_i (by rw [if_neg (by omega)]; rfl))
  · refine g_aload_n E d_La_cell_6 rfl 0 rfl ?_
    refine g_iload_n E d_La_cell_7 rfl 1 rfl ?_
    refine g_scrR E hv.2.1 hv.2.2.1 h (by omega) d_La_cell_8 ?_
    refine g_goto E 13 d_La_cell_9 (by decide) ?_
    exact g_iret E hr hlk d_La_cell_13 (gq_i (by rw [if_pos h]))
set_option maxHeartbeats 4000000 in
set_option maxRecDepth 100000 in
theorem law_loop {p : Program} {l : Launch} {e : Env} {s : State} {m : MethodId} {below : List Frame} {meth : Method} {c : Code} {V : gV} {sb LL : Nat} {xs : Nat → Int32} {oa : Nat} {ad r1 r2 r3 am : Nat → Nat} {w0 : va_W} (E : gE p s m #[Value.ref sb] c code 8 R_La V) (hr : meth.sig.returnType = ret) (hlk : meth.locks = false) (hX : va_X sb LL xs s s.heap) (hbl : sb < s.heap.size) (hXJ : XJ s) (hfl : l.flags = flags0) (hL : LL ≤ 2561) (hT : TW V oa ad r1 r2 r3 am w0) :
    gg p l e room_1 s m #[Value.ref sb] below meth c 8 (lw_Z below #[Value.ref sb] s) 74 1131 (gW V (fun q => s.heap.size ≤ q) s.heap w0) [(4, .int (nI 1)), (3, .ref oa), (2, .ref (am 0)), (1, .ref (ad 0)), (0, .ref sb)] 33 [] := by
  refine gloopC (α := Nat × va_W) (fun a => 73 + a.1) (fun a => 1125 + 6 * a.1) (fun a => gW V (fun q => s.heap.size ≤ q) s.heap a.2) (fun a => [(4, .int (nI a.1)), (3, .ref oa), (2, .ref (am 0)), (1, .ref (ad 0)), (0, .ref sb)]) (fun a => a.1 ≤ 2566 ∧ TW V oa ad r1 r2 r3 am a.2) (fun a => 3000 - a.1) (1, w0) ⟨Nat.le_of_ble_eq_true rfl, hT⟩ ?_
  rintro ⟨ti, w⟩ hI ih
  dsimp only at hI ih ⊢
  obtain ⟨hti, hTW⟩ := hI
  refine g_iload E d_La_law_33 0 rfl ?_
  refine g_aload_n E d_La_law_35 rfl 4 rfl ?_
  refine g_slen E hX hbl d_La_law_36 ?_
  refine g_iconst (v := nI 5) E d_La_law_37 (by decide) ?_
  refine g_isub E d_La_law_38 ?_
  refine g_topi (nI_subI LL 5) ?_
  have kk : ∀ w', TW V oa ad r1 r2 r3 am w' → gg p l e room_1 s m #[Value.ref sb] below meth c 8 (lw_Z below #[Value.ref sb] s) (73 + ti + 1) (1125 + 6 * ti + 6) (gW V (fun q => s.heap.size ≤ q) s.heap w') [(4, .int (nI ti)), (3, .ref oa), (2, .ref (am 0)), (1, .ref (ad 0)), (0, .ref sb)] 1527 [] ∨ ¬ ti + 5 ≤ LL := by
    intro w' hw'
    by_cases h5 : ti + 5 ≤ LL
    · refine Or.inl ?_
      refine g_iinc (lv' := [(4, .int (nI (ti + 5))), (3, .ref oa), (2, .ref (am 0)), (1, .ref (ad 0)), (0, .ref sb)]) E d_La_law_1527 0 rfl (show nI ti + nI 5 = nI (ti + 5) from nI_add _ _) (by decide) rfl ?_
      refine g_goto E 33 d_La_law_1530 (by decide) ?_
      exact g_wid (by omega) (by omega) (ih (ti + 5, w') ⟨by (try dsimp only); omega, hw'⟩ (by (try dsimp only); omega))
    · exact Or.inr h5
  refine g_icmp_gt E 1533 d_La_law_39 (by decide) (fun h => ?_) (fun h => ?_)
  · refine g_iconst (v := nI 1) E d_La_law_1533 (by decide) ?_
    exact g_true E hr hlk (by omega) (by omega) d_La_law_1534
  · rw [nI_iI ti, iI_lt (by omega) (by omega) (by omega) (by omega)] at h
    have hiL : ti + 5 ≤ LL := by omega
    have kk' : ∀ w', TW V oa ad r1 r2 r3 am w' → gg p l e room_1 s m #[Value.ref sb] below meth c 8 (lw_Z below #[Value.ref sb] s) (73 + ti + 1) (1125 + 6 * ti + 6) (gW V (fun q => s.heap.size ≤ q) s.heap w') [(4, .int (nI ti)), (3, .ref oa), (2, .ref (am 0)), (1, .ref (ad 0)), (0, .ref sb)] 1527 [] := fun w' hw' => (kk w' hw').resolve_right (fun q => q hiL)
    have hcl : 73 + ti + 1 ≤ 601024 := by omega
    have hsl : 1125 + 6 * ti + 6 ≤ 7293000 := by omega
    refine g_aload_n E d_La_law_42 rfl 4 rfl ?_
    refine g_iload E d_La_law_43 0 rfl ?_
    refine g_scr E hX hbl (by omega) (by omega) d_La_law_45 ?_
    refine g_bipush (v := nI 31) E d_La_law_46 (by decide) ?_
    refine g_iand E d_La_law_48 ?_
    refine g_topi (show xs ti &&& nI 31 = nI (xm (xs ti) 5) from x_all (xs ti) (n := 5) (by decide)) ?_
    have hk : xm (xs ti) 5 < 32 := xm_2 (xs ti) 5
    generalize xm (xs ti) 5 = k at hk ⊢
    obtain ⟨ou, th, nY, ix, bu, np, st, sr, go, ca, nw, yo, ce, wo, po, ne, sm, cl, cs, mk, bg, dp, sh, sn, yw, sp, rs, msh, nx, spn, rfl, hI⟩ := hTW
    by_cases h20 : k ≤ 20
    · rcases (show k = 0 ∨ k = 1 ∨ k = 2 ∨ k = 3 ∨ k = 4 ∨ k = 5 ∨ k = 6 ∨ k = 7 ∨ k = 8 ∨ k = 9 ∨ k = 10 ∨ k = 11 ∨ k = 12 ∨ k = 13 ∨ k = 14 ∨ k = 15 ∨ k = 16 ∨ k = 17 ∨ k = 18 ∨ k = 19 ∨ k = 20 by omega) with hk0 | hk0 | hk0 | hk0 | hk0 | hk0 | hk0 | hk0 | hk0 | hk0 | hk0 | hk0 | hk0 | hk0 | hk0 | hk0 | hk0 | hk0 | hk0 | hk0 | hk0 <;> subst hk0
      · exact g_tabIn E d_La_law_49 (by decide) (by decide) (off := 99) (by decide) (tgt := 148) (by decide) (T_index E hX hbl hXJ hfl hL hiL hcl hsl hI kk')
      · exact g_tabIn E d_La_law_49 (by decide) (by decide) (off := 167) (by decide) (tgt := 216) (by decide) (T_budget E hX hbl hXJ hfl hL hiL hcl hsl hI kk')
      · exact g_tabIn E d_La_law_49 (by decide) (by decide) (off := 235) (by decide) (tgt := 284) (by decide) (T_part E hX hbl hXJ hfl hL hiL hcl hsl hI kk')
      · exact g_tabIn E d_La_law_49 (by decide) (by decide) (off := 303) (by decide) (tgt := 352) (by decide) (T_moves E hX hbl hXJ hfl hL hiL hcl hsl hI kk')
      · exact g_tabIn E d_La_law_49 (by decide) (by decide) (off := 395) (by decide) (tgt := 444) (by decide) (T_care E hX hbl hXJ hfl hL hiL hcl hsl hI kk')
      · exact g_tabIn E d_La_law_49 (by decide) (by decide) (off := 475) (by decide) (tgt := 524) (by decide) (T_share E hX hbl hXJ hfl hL hiL hcl hsl hI kk')
      · exact g_tabIn E d_La_law_49 (by decide) (by decide) (off := 554) (by decide) (tgt := 603) (by decide) (T_cares E hX hbl hXJ hfl hL hiL hcl hsl hI kk')
      · exact g_tabIn E d_La_law_49 (by decide) (by decide) (off := 622) (by decide) (tgt := 671) (by decide) (T_most E hX hbl hXJ hfl hL hiL hcl hsl hI kk')
      · exact g_tabIn E d_La_law_49 (by decide) (by decide) (off := 690) (by decide) (tgt := 739) (by decide) (T_work E hX hbl hXJ hfl hL hiL hcl hsl hI kk')
      · exact g_tabIn E d_La_law_49 (by decide) (by decide) (off := 782) (by decide) (tgt := 831) (by decide) (T_join E hX hbl hXJ hfl hL hiL hcl hsl hI kk')
      · exact g_tabIn E d_La_law_49 (by decide) (by decide) (off := 862) (by decide) (tgt := 911) (by decide) (T_clash E hX hbl hXJ hfl hL hiL hcl hsl hI kk')
      · exact g_tabIn E d_La_law_49 (by decide) (by decide) (off := 965) (by decide) (tgt := 1014) (by decide) (T_needs E hX hbl hXJ hfl hL hiL hcl hsl hI kk')
      · exact g_tabIn E d_La_law_49 (by decide) (by decide) (off := 1033) (by decide) (tgt := 1082) (by decide) (T_choose E hX hbl hXJ hfl hL hiL hcl hsl hI kk')
      · exact g_tabIn E d_La_law_49 (by decide) (by decide) (off := 1046) (by decide) (tgt := 1095) (by decide) (T_chosen E hX hbl hXJ hfl hL hiL hcl hsl hI kk')
      · exact g_tabIn E d_La_law_49 (by decide) (by decide) (off := 1109) (by decide) (tgt := 1158) (by decide) (T_costs E hX hbl hXJ hfl hL hiL hcl hsl hI kk')
      · exact g_tabIn E d_La_law_49 (by decide) (by decide) (off := 1165) (by decide) (tgt := 1214) (by decide) (T_lacks E hX hbl hXJ hfl hL hiL hcl hsl hI kk')
      · exact g_tabIn E d_La_law_49 (by decide) (by decide) (off := 1190) (by decide) (tgt := 1239) (by decide) (T_money E hX hbl hXJ hfl hL hiL hcl hsl hI kk')
      · exact g_tabIn E d_La_law_49 (by decide) (by decide) (off := 1238) (by decide) (tgt := 1287) (by decide) (T_reserve E hX hbl hXJ hfl hL hiL hcl hsl hI kk')
      · exact g_tabIn E d_La_law_49 (by decide) (by decide) (off := 1293) (by decide) (tgt := 1342) (by decide) (T_shortIn E hX hbl hXJ hfl hL hiL hcl hsl hI kk')
      · exact g_tabIn E d_La_law_49 (by decide) (by decide) (off := 1306) (by decide) (tgt := 1355) (by decide) (T_payment E hX hbl hXJ hfl hL hiL hcl hsl hI kk')
      · exact g_tabIn E d_La_law_49 (by decide) (by decide) (off := 1386) (by decide) (tgt := 1435) (by decide) (T_rest E hX hbl hXJ hfl hL hiL hcl hsl hI kk')
    · refine g_tabOut E d_La_law_49 (Or.inr (by rw [nI_toInt (by omega)]; omega)) (tgt := 1527) (by decide) ?_
      exact g_wid (by omega) (by omega) (kk' _ ⟨ou, th, nY, ix, bu, np, st, sr, go, ca, nw, yo, ce, wo, po, ne, sm, cl, cs, mk, bg, dp, sh, sn, yw, sp, rs, msh, nx, spn, rfl, hI⟩)

set_option maxHeartbeats 4000000 in
set_option maxRecDepth 100000 in
/-- from the entry, for every script of at most 2561 ints, the law comes to its end with true -/
theorem whole_start {p : Program} {e : Env} {s : State} {m : MethodId} {below : List Frame} {meth : Method} {c : Code} (l : Launch) (hfl : l.flags = flags0) {b L : Nat} {xs : Nat → Int32} (hL : L ≤ 2561) (C0 : lw_At p s m meth c b L xs) : W p l e room_1 s m #[Value.ref b] below meth c s.heap [] 0 0 (lw_Z below #[Value.ref b] s) (entryFrame m ([Value.ref b] : List Value).toArray 8) := by
  obtain ⟨hx, hb, hr, hml, hown, hts, hX, hbl, hlk, hgv⟩ := C0
  obtain ⟨V, hK⟩ := exV hts
  have hXJ := exXJ hts hgv
  have E : gE p s m #[Value.ref b] c code 8 R_La V := ⟨hx, hb, hml, hown, fun w h => hts w (gt_in w h), hK⟩
  have hov : (Cond.arrayOver (.array .int)).before #[Value.ref b] s = true := hts _ (List.mem_of_getElem? (i := 84) (by decide +kernel))
  have hA0 : ∀ q : Nat, s.heap.size ≤ q → (fun q => s.heap.size ≤ q) q := fun _ h => h
  have G : gg p l e room_1 s m #[Value.ref b] below meth c 8 (lw_Z below #[Value.ref b] s) 0 0 (gW V (fun q => s.heap.size ≤ q) s.heap ([] : va_W)) [(0, .ref b)] 0 [] := by
    refine g_new (fs := [.null, .null, .null, .null, .int (nI 0), .int (nI 0)]) E hA0 in_CY ty_CY tyok_CY kt_La_8 kb_CY kn_CY (ci := 0) rfl (by decide +kernel) ⟨Nat.le_of_ble_eq_true rfl, Nat.le_of_ble_eq_true rfl⟩ d_La_law_0 (fun q1 => ?_)
    refine g_ws (ws' := [(q1, .inr (0, [.null, .null, .null, .null, .int (nI 0), .int (nI 0)]))]) rfl ?_
    refine g_dup E d_La_law_3 rfl ?_
    refine g_aload_n E d_La_law_4 rfl 0 rfl ?_
    refine g_iconst (v := nI 0) E d_La_law_5 (by decide) ?_
    refine gr_i (post := fun r => r = (if 0 < L then xs 0 else 0)) (rest := [.ref q1, .ref q1]) (a := [Value.ref b, .int (nI 0)].toArray) (fun H locs ls ho hl => va_runS (As := [.ref b, .int (nI 0)]) ⟨E.1, E.2.1, E.2.2.1, E.2.2.2.1, E.2.2.2.2.1⟩ (C_La_cell l (V := V) (b := b) (xs := xs) hL) (cs_La_76 E rfl rfl ⟨Nat.le_of_ble_eq_true rfl, Nat.le_of_ble_eq_true rfl⟩) ⟨cCell.blind, fun U hU hWU => ⟨rfl, by rw [hU]; exact va_X.moved hWU.alike (hX.kept (ho.2.2.2.1 b hbl (Nat.not_le.mpr hbl))), by rw [hU]; exact Nat.lt_of_lt_of_le hbl ho.2.2.1, E.2.2.2.2.2.warm hWU⟩⟩ rfl rfl hl.1 rfl (lv_room (Nat.le_of_ble_eq_true rfl)) d_La_law_6 ⟨Nat.le_of_ble_eq_true rfl, Nat.le_of_ble_eq_true rfl⟩) (fun r hr0 => ?_)
    subst hr0
    refine gI (As := [.int (if 0 < L then xs 0 else 0)]) (rest := [.ref q1]) E hA0 hov (C_CY_init l (a := q1) (if 0 < L then xs 0 else 0)) kc_CY_init kl_La_82 ki_CY_init kn_CY rfl kd_CY_init rfl rfl ⟨Nat.le_of_ble_eq_true rfl, Nat.le_of_ble_eq_true rfl⟩ rfl rfl (Nat.le_of_ble_eq_true rfl) ⟨Nat.le_of_ble_eq_true rfl, Nat.le_of_ble_eq_true rfl⟩ d_La_law_9 (fun u1 => ?_)
    refine g_astore_n (lv' := [(1, .ref q1), (0, .ref b)]) E d_La_law_12 rfl (by decide) rfl ?_
    refine g_new (fs := [.int (nI 0), .int (nI 0), .null, .null, .int (nI 0), .null, .null, .null, .null, .int (nI 0), .null, .null, .null, .null, .null, .null, .null, .int (nI 0), .long (lN 0), .long (lN 0), .null, .null, .long (lN 0)]) E hA0 in_Mo ty_Mo tyok_Mo kt_La_85 kb_Mo kn_Mo (ci := 4) rfl (by decide +kernel) ⟨Nat.le_of_ble_eq_true rfl, Nat.le_of_ble_eq_true rfl⟩ d_La_law_13 (fun q2 => ?_)
    refine g_dup E d_La_law_16 rfl ?_
    refine g_aload_n E d_La_law_17 rfl 1 rfl ?_
    refine g_iconst (v := nI 0) E d_La_law_18 (by decide) ?_
    refine gr_i (post := fun r => r = (if 0 < L then xs 0 else 0)) (rest := [.ref q2, .ref q2]) (a := [Value.ref b, .int (nI 0)].toArray) (fun H locs ls ho hl => va_runS (As := [.ref b, .int (nI 0)]) ⟨E.1, E.2.1, E.2.2.1, E.2.2.2.1, E.2.2.2.2.1⟩ (C_La_cell l (V := V) (b := b) (xs := xs) hL) (cs_La_76 E rfl rfl ⟨Nat.le_of_ble_eq_true rfl, Nat.le_of_ble_eq_true rfl⟩) ⟨cCell.blind, fun U hU hWU => ⟨rfl, by rw [hU]; exact va_X.moved hWU.alike (hX.kept (ho.2.2.2.1 b hbl (Nat.not_le.mpr hbl))), by rw [hU]; exact Nat.lt_of_lt_of_le hbl ho.2.2.1, E.2.2.2.2.2.warm hWU⟩⟩ rfl rfl hl.1 rfl (lv_room (Nat.le_of_ble_eq_true rfl)) d_La_law_19 ⟨Nat.le_of_ble_eq_true rfl, Nat.le_of_ble_eq_true rfl⟩) (fun r hr0 => ?_)
    subst hr0
    refine gI (As := [.int (if 0 < L then xs 0 else 0)]) (rest := [.ref q2]) E hA0 hov (fvS (pre := wC V (adC q1 u1) (fun i => (adC q1 u1) 7 + 1 + i) (fun i => (adC q1 u1) 8 + 1 + i) (fun i => (adC q1 u1) 19 + 1 + i) (cl12 (if 0 < L then xs 0 else 0)) (fun _ => 1000) (fun _ => 0) 0 (fun _ => 0) (fun _ => 0) (fun _ _ => 0) (fun _ _ => 0) (fun _ => 0) (fun _ => 0) (fun _ => 0) 0 0 (fun _ => 0) (fun _ => 0) (fun _ => 0) (fun _ => some 0) (fun _ => some 0) (fun _ => 0) (fun _ _ => 0) 0 (fun _ => 0) (fun _ => 0) 0 0) (C_Mo_init l (a := q2) (if 0 < L then xs 0 else 0))) kc_Mo_init kl_La_87 ki_Mo_init kn_Mo rfl kd_Mo_init rfl rfl ⟨Nat.le_of_ble_eq_true rfl, Nat.le_of_ble_eq_true rfl⟩ rfl rfl (Nat.le_of_ble_eq_true rfl) ⟨Nat.le_of_ble_eq_true rfl, Nat.le_of_ble_eq_true rfl⟩ d_La_law_22 (fun u2 => ?_)
    refine g_astore_n (lv' := [(2, .ref q2), (1, .ref q1), (0, .ref b)]) E d_La_law_25 rfl (by decide) rfl ?_
    refine g_iconst (v := nI 1) E d_La_law_26 (by decide) ?_
    refine g_newL E hA0 (by decide) ⟨Nat.le_of_ble_eq_true rfl, Nat.le_of_ble_eq_true rfl⟩ d_La_law_27 (fun oa => ?_)
    refine g_perm (ws' := (oa, aX V (lN 0)) :: (wC V (adC q1 u1) (fun i => (adC q1 u1) 7 + 1 + i) (fun i => (adC q1 u1) 8 + 1 + i) (fun i => (adC q1 u1) 19 + 1 + i) (cl12 (if 0 < L then xs 0 else 0)) (fun _ => 1000) (fun _ => 0) 0 (fun _ => 0) (fun _ => 0) (fun _ _ => 0) (fun _ _ => 0) (fun _ => 0) (fun _ => 0) (fun _ => 0) 0 0 (fun _ => 0) (fun _ => 0) (fun _ => 0) (fun _ => some 0) (fun _ => some 0) (fun _ => 0) (fun _ _ => 0) 0 (fun _ => 0) (fun _ => 0) 0 0 ++ wM V (adC q2 u2) 0 (cl12 (if 0 < L then xs 0 else 0)) (fun _ => 1000) (fun _ => 0) 0 (fun _ => 0) (fun _ => 0) (fun _ => 0) (fun _ => 0) 0 (fun _ => 0) (fun _ => 0) (fun _ => 0) (fun _ => some 0) (fun _ => some 0) (fun _ => 0) (fun _ => false) 0 0 0 (fun _ => 0) (fun _ => 0) 0)) (List.perm_append_comm (l₂ := [(oa, aX V (lN 0))])) ?_
    refine g_astore_n (lv' := [(3, .ref oa), (2, .ref q2), (1, .ref q1), (0, .ref b)]) E d_La_law_29 rfl (by decide) rfl ?_
    refine g_iconst (v := nI 1) E d_La_law_30 (by decide) ?_
    refine g_istore (lv' := [(4, .int (nI 1)), (3, .ref oa), (2, .ref q2), (1, .ref q1), (0, .ref b)]) E d_La_law_31 (by decide) rfl ?_
    have hbd := cl12_bd (if 0 < L then xs 0 else 0)
    refine g_wid (Nat.le_of_ble_eq_true rfl) (Nat.le_of_ble_eq_true rfl) (law_loop (oa := oa) (ad := adC q1 u1) (r1 := fun i => adC q1 u1 7 + 1 + i) (r2 := fun i => adC q1 u1 8 + 1 + i) (r3 := fun i => adC q1 u1 19 + 1 + i) (am := adC q2 u2) E hr hlk hX hbl hXJ hfl hL ⟨lN 0, 0, cl12 (if 0 < L then xs 0 else 0), (fun _ => 1000), (fun _ => 0), 0, (fun _ => 0), (fun _ => 0), (fun _ => 0), (fun _ => 0), 0, (fun _ => 0), (fun _ => 0), (fun _ => 0), (fun _ => some 0), (fun _ => some 0), (fun _ => 0), (fun _ => false), (fun _ => 0), 0, 0, 0, (fun _ => 0), (fun _ => 0), 0, (fun _ => 0), (fun _ => 0), (fun _ => 0), (fun _ => 0), 0, ?_, IV_0 hbd.1 hbd.2⟩)
    unfold wT wG
    rw [sxF_0, tkF_0, svF_0]
    rfl
  rw [lg_entry_eq]
  exact G s.heap [] _ ⟨fun k q hk => (by simp at hk), ⟨fun i j p q hp => (by simp at hp), fun k q hk => (by simp at hk)⟩, va_S.rf⟩ (lv_entry [.ref b] (Nat.le_of_ble_eq_true rfl))
