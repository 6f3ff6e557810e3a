/-! A turn of the law's loop: each call, legal or refused, on class and model side by side. -/
/-- the answer's place, the class's cells, the model's cells -/
def wG (V : gV) (oa : Nat) (ad r1 r2 r3 am : Nat → Nat) (ou : Int64) (nY : Nat) (ix bu : Nat → Nat) (np : Nat) (st sr : Nat → Nat) (sx tk : Nat → Nat → Nat) (rn sh sn : Nat → Nat) (yw nw : Nat) (yo ce wo : Nat → Nat) (po ne : Nat → Option Nat) (cs : Nat → Nat) (sv : Nat → Nat → Nat) (mk : Nat) (sp rs : Nat → Int) (bg dp : Nat) (th_ nY_ : Nat) (ix_ bu_ : Nat → Nat) (np_ : Nat) (st_ sr_ go_ ca_ : Nat → Nat) (nw_ : Nat) (yo_ ce_ wo_ : Nat → Nat) (po_ ne_ : Nat → Option Nat) (sv_ : Nat → Nat) (cl_ : Nat → Bool) (mk_ bg_ dp_ : Nat) (sh_ nx_ : Nat → Nat) (spn_ : Int) : va_W :=
  (oa, aX V ou) :: (wC V ad r1 r2 r3 nY ix bu np st sr sx tk rn sh sn yw nw yo ce wo po ne cs sv mk sp rs bg dp ++ wM V am th_ nY_ ix_ bu_ np_ st_ sr_ go_ ca_ nw_ yo_ ce_ wo_ po_ ne_ sv_ cl_ mk_ bg_ dp_ sh_ nx_ spn_)

theorem wC_len {V : gV} {ad r1 r2 r3 : Nat → Nat} {nY : Nat} {ix bu : Nat → Nat} {np : Nat} {st sr : Nat → Nat} {sx tk : Nat → Nat → Nat} {rn sh sn : Nat → Nat} {yw nw : Nat} {yo ce wo : Nat → Nat} {po ne : Nat → Option Nat} {cs : Nat → Nat} {sv : Nat → Nat → Nat} {mk : Nat} {sp rs : Nat → Int} {bg dp : Nat} : (wC V ad r1 r2 r3 nY ix bu np st sr sx tk rn sh sn yw nw yo ce wo po ne cs sv mk sp rs bg dp).length = 56 := by
  unfold wC
  simp only [List.length_append, List.length_cons, List.length_nil, gpool_len]

theorem wG_am {V : gV} {oa : Nat} {am : Nat → Nat} {ou : Int64} {ad r1 r2 r3 : Nat → Nat} {nY : Nat} {ix bu : Nat → Nat} {np : Nat} {st sr : Nat → Nat} {sx tk : Nat → Nat → Nat} {rn sh sn : Nat → Nat} {yw nw : Nat} {yo ce wo : Nat → Nat} {po ne : Nat → Option Nat} {cs : Nat → Nat} {sv : Nat → Nat → Nat} {mk : Nat} {sp rs : Nat → Int} {bg dp : Nat} {th_ nY_ : Nat} {ix_ bu_ : Nat → Nat} {np_ : Nat} {st_ sr_ go_ ca_ : Nat → Nat} {nw_ : Nat} {yo_ ce_ wo_ : Nat → Nat} {po_ ne_ : Nat → Option Nat} {sv_ : Nat → Nat} {cl_ : Nat → Bool} {mk_ bg_ dp_ : Nat} {sh_ nx_ : Nat → Nat} {spn_ : Int} : (wG V oa ad r1 r2 r3 am ou nY ix bu np st sr sx tk rn sh sn yw nw yo ce wo po ne cs sv mk sp rs bg dp th_ nY_ ix_ bu_ np_ st_ sr_ go_ ca_ nw_ yo_ ce_ wo_ po_ ne_ sv_ cl_ mk_ bg_ dp_ sh_ nx_ spn_)[57]? = some (am 0, .inr (4, [.int (nI th_), .int (nI nY_), .ref (am 1), .ref (am 2), .int (nI np_), .ref (am 3), .ref (am 4), .ref (am 5), .ref (am 6), .int (nI nw_), .ref (am 7), .ref (am 8), .ref (am 9), .ref (am 10), .ref (am 11), .ref (am 12), .ref (am 13), .int (nI mk_), .long (lN bg_), .long (lN dp_), .ref (am 14), .ref (am 15), .long (lI spn_)])) := by
  unfold wG
  rw [List.getElem?_cons_succ, List.getElem?_append_right (by rw [wC_len]; exact Nat.le_refl _), wC_len]
  rfl

set_option maxHeartbeats 4000000 in
set_option maxRecDepth 100000 in
theorem K_index {p : Program} {l : Launch} {e : Env} {s : State} {m : MethodId} {below : List Frame} {meth : Method} {c : Code} {V : gV} {sb LL ti cells slots : Nat} {xs : Nat → Int32} {oa : Nat} {am : Nat → Nat} {ou : Int64} {ad r1 r2 r3 : Nat → Nat} {nY : Nat} {ix bu : Nat → Nat} {np : Nat} {st sr : Nat → Nat} {sx tk : Nat → Nat → Nat} {rn sh sn : Nat → Nat} {yw nw : Nat} {yo ce wo : Nat → Nat} {po ne : Nat → Option Nat} {cs : Nat → Nat} {sv : Nat → Nat → Nat} {mk : Nat} {sp rs : Nat → Int} {bg dp : Nat} {th_ nY_ : Nat} {ix_ bu_ : Nat → Nat} {np_ : Nat} {st_ sr_ go_ ca_ : Nat → Nat} {nw_ : Nat} {yo_ ce_ wo_ : Nat → Nat} {po_ ne_ : Nat → Option Nat} {sv_ : Nat → Nat} {cl_ : Nat → Bool} {mk_ bg_ dp_ : Nat} {sh_ nx_ : Nat → Nat} {spn_ : Int} (E : gE p s m #[Value.ref sb] c code 8 R_La V) (hX : va_X sb LL xs s s.heap) (hbl : sb < s.heap.size) (hXJ : XJ s) (hfl : l.flags = flags0) (hL : LL ≤ 2561) (hiL : ti + 5 ≤ LL) (hcl : cells + 1 ≤ 601024) (hsl : slots + 6 ≤ 7293000) (y v : Nat) (hy : y < nY) (hY : nY ≤ 12) (h1 : 500 ≤ v) (h2 : v ≤ 2000) (hy_ : y < nY_) (hY_ : nY_ ≤ 12) (h1_ : 500 ≤ v) (h2_ : v ≤ 2000) (hx1 : xs (ti + 1) = nI y) (hx2 : xs (ti + 2) = nI v) (hE : nI (ix y) = nI (ix_ y)) (kk : gg p l e room_1 s m #[Value.ref sb] below meth c 8 (lw_Z below #[Value.ref sb] s) (cells) (slots) (gW V (fun q => s.heap.size ≤ q) s.heap (wG V oa ad r1 r2 r3 am ((nI (ix y)).toInt64) nY (va_up ix y v) bu np st sr sx tk rn sh sn yw nw yo ce wo po ne cs sv mk sp rs bg dp 0 nY_ (va_up ix_ y v) bu_ np_ st_ sr_ go_ ca_ nw_ yo_ ce_ wo_ po_ ne_ sv_ cl_ mk_ bg_ dp_ sh_ nx_ spn_)) [(4, .int (nI ti)), (3, .ref oa), (2, .ref (am 0)), (1, .ref (ad 0)), (0, .ref sb)] 1527 []) : gg p l e room_1 s m #[Value.ref sb] below meth c 8 (lw_Z below #[Value.ref sb] s) cells slots (gW V (fun q => s.heap.size ≤ q) s.heap (wG V oa ad r1 r2 r3 am ou nY ix bu np st sr sx tk rn sh sn yw nw yo ce wo po ne cs sv mk sp rs bg dp th_ nY_ ix_ bu_ np_ st_ sr_ go_ ca_ nw_ yo_ ce_ wo_ po_ ne_ sv_ cl_ mk_ bg_ dp_ sh_ nx_ spn_)) [(4, .int (nI ti)), (3, .ref oa), (2, .ref (am 0)), (1, .ref (ad 0)), (0, .ref sb)] 148 [] := by
  refine g_aload_n E d_La_law_148 rfl 3 rfl ?_
  refine g_aload_n E d_La_law_149 rfl 4 rfl ?_
  refine g_iload E d_La_law_150 0 rfl ?_
  refine g_iconst (v := nI 1) E d_La_law_152 (by decide) ?_
  refine g_iadd E d_La_law_153 ?_
  refine g_topi (nI_add _ _) ?_
  refine g_scr E hX hbl (by omega) (by omega) d_La_law_154 ?_
  refine g_topi hx1 ?_
  refine g_aload_n E d_La_law_155 rfl 4 rfl ?_
  refine g_iload E d_La_law_156 0 rfl ?_
  refine g_iconst (v := nI 2) E d_La_law_158 (by decide) ?_
  refine g_iadd E d_La_law_159 ?_
  refine g_topi (nI_add _ _) ?_
  refine g_scr E hX hbl (by omega) (by omega) d_La_law_160 ?_
  refine g_topi hx2 ?_
  refine g_aload_n E d_La_law_161 rfl 1 rfl ?_
  refine gwLi (w := wG V oa ad r1 r2 r3 am ou nY ix bu np st sr sx tk rn sh sn yw nw yo ce wo po ne cs sv mk sp rs bg dp th_ nY_ ix_ bu_ np_ st_ sr_ go_ ca_ nw_ yo_ ce_ wo_ po_ ne_ sv_ cl_ mk_ bg_ dp_ sh_ nx_ spn_) (w' := wG V oa ad r1 r2 r3 am ((nI (ix y)).toInt64) nY (va_up ix y v) bu np st sr sx tk rn sh sn yw nw yo ce wo po ne cs sv mk sp rs bg dp th_ nY_ ix_ bu_ np_ st_ sr_ go_ ca_ nw_ yo_ ce_ wo_ po_ ne_ sv_ cl_ mk_ bg_ dp_ sh_ nx_ spn_) (As := [.ref (ad 0), .int (nI y), .int (nI v), .ref oa]) (rest := []) E (fun _ h => h) (si (fi (pre := wM V am th_ nY_ ix_ bu_ np_ st_ sr_ go_ ca_ nw_ yo_ ce_ wo_ po_ ne_ sv_ cl_ mk_ bg_ dp_ sh_ nx_ spn_) (L_CY_index l (oa := oa) (ou := ou) y v hy hY h1 h2))) kc_La_index kl_La_88 ks_La_index kn_La kd_La_index rfl rfl ⟨Nat.le_of_ble_eq_true rfl, Nat.le_of_ble_eq_true rfl⟩ rfl rfl (Nat.le_of_ble_eq_true rfl) ⟨by show _ ≤ 601024; omega, by show _ ≤ 7293000; omega⟩ d_La_law_162 ?_
  refine g_istore (lv' := [(5, .int (nI 0)), (4, .int (nI ti)), (3, .ref oa), (2, .ref (am 0)), (1, .ref (ad 0)), (0, .ref sb)]) E d_La_law_165 (by decide) rfl ?_
  refine g_aload_n E d_La_law_167 rfl 3 rfl ?_
  refine g_aload_n E d_La_law_168 rfl 5 rfl ?_
  refine g_iload E d_La_law_169 1 rfl ?_
  refine g_iconst (v := nI 1) E d_La_law_171 (by decide) ?_
  refine g_iadd E d_La_law_172 ?_
  refine g_topi (nI_add _ _) ?_
  refine g_scr E hX hbl (by omega) (by omega) d_La_law_173 ?_
  refine g_topi hx1 ?_
  refine g_aload_n E d_La_law_174 rfl 5 rfl ?_
  refine g_iload E d_La_law_175 1 rfl ?_
  refine g_iconst (v := nI 2) E d_La_law_177 (by decide) ?_
  refine g_iadd E d_La_law_178 ?_
  refine g_topi (nI_add _ _) ?_
  refine g_scr E hX hbl (by omega) (by omega) d_La_law_179 ?_
  refine g_topi hx2 ?_
  refine gwVi (w := wG V oa ad r1 r2 r3 am ((nI (ix y)).toInt64) nY (va_up ix y v) bu np st sr sx tk rn sh sn yw nw yo ce wo po ne cs sv mk sp rs bg dp th_ nY_ ix_ bu_ np_ st_ sr_ go_ ca_ nw_ yo_ ce_ wo_ po_ ne_ sv_ cl_ mk_ bg_ dp_ sh_ nx_ spn_) (w' := wG V oa ad r1 r2 r3 am ((nI (ix y)).toInt64) nY (va_up ix y v) bu np st sr sx tk rn sh sn yw nw yo ce wo po ne cs sv mk sp rs bg dp 0 nY_ (va_up ix_ y v) bu_ np_ st_ sr_ go_ ca_ nw_ yo_ ce_ wo_ po_ ne_ sv_ cl_ mk_ bg_ dp_ sh_ nx_ spn_) (mc := 0) (ms := 0) (As := [.int (nI y), .int (nI v)]) (rest := []) E (fun _ h => h) 57 wG_am rfl (fi (pre := (oa, aX V ((nI (ix y)).toInt64)) :: wC V ad r1 r2 r3 nY (va_up ix y v) bu np st sr sx tk rn sh sn yw nw yo ce wo po ne cs sv mk sp rs bg dp) (C_Mo_index l y v hy_ hY_ h1_ h2_)) (cs_La_91 E rfl rfl ⟨Nat.le_of_ble_eq_true rfl, Nat.le_of_ble_eq_true rfl⟩) rfl rfl (Nat.le_of_ble_eq_true rfl) ⟨by show _ ≤ 601024; omega, by show _ ≤ 7293000; omega⟩ d_La_law_180 ?_
  refine g_istore (lv' := [(6, .int (nI (ix_ y))), (5, .int (nI 0)), (4, .int (nI ti)), (3, .ref oa), (2, .ref (am 0)), (1, .ref (ad 0)), (0, .ref sb)]) E d_La_law_183 (by decide) rfl ?_
  refine g_aload_n E d_La_law_185 rfl 4 rfl ?_
  refine gpVi (As := []) (rest := []) E gO_w 57 wG_am rfl (fpi0 (pre := (oa, aX V ((nI (ix y)).toInt64)) :: wC V ad r1 r2 r3 nY (va_up ix y v) bu np st sr sx tk rn sh sn yw nw yo ce wo po ne cs sv mk sp rs bg dp) (C_Mo_thrown l)) (cs_La_92 E rfl rfl ⟨Nat.le_of_ble_eq_true rfl, Nat.le_of_ble_eq_true rfl⟩) rfl rfl (Nat.le_of_ble_eq_true rfl) ⟨by show _ ≤ 601024; omega, by show _ ≤ 7293000; omega⟩ d_La_law_186 ?_
  refine g_iload E d_La_law_189 1 rfl ?_
  refine g_ncmp_eq E 196 d_La_law_191 (by decide) (by omega) (by omega) (fun h1 => ?_) (fun h1 => ?_)
  · refine g_iload E d_La_law_196 1 rfl ?_
    refine g_nif_ne E 213 d_La_law_198 (by decide) (by decide) (fun h2 => absurd h2 (by decide)) (fun _ => ?_)
    refine g_aload_n E d_La_law_201 rfl 3 rfl ?_
    refine g_iconst (v := nI 0) E d_La_law_202 (by decide) ?_
    refine g_ldX E gO_w 0 rfl d_La_law_203 ?_
    refine g_iload E d_La_law_204 0 rfl ?_
    refine g_i2l E d_La_law_206 ?_
    refine g_topl rfl ?_
    refine g_lcmp E d_La_law_207 ?_
    refine g_if_eq E 213 d_La_law_208 (by decide) (fun h3 => ?_) (fun h3 => ?_)
    · refine g_goto E 1527 d_La_law_213 (by decide) ?_
      refine g_lv [2, 3, 4, 5, 6] rfl ?_
      exact kk
    · exact absurd (lg_eq.mpr (by rw [hE])) h3
  · exact absurd rfl h1

set_option maxHeartbeats 4000000 in
set_option maxRecDepth 100000 in
theorem K_budget {p : Program} {l : Launch} {e : Env} {s : State} {m : MethodId} {below : List Frame} {meth : Method} {c : Code} {V : gV} {sb LL ti cells slots : Nat} {xs : Nat → Int32} {oa : Nat} {am : Nat → Nat} {ou : Int64} {ad r1 r2 r3 : Nat → Nat} {nY : Nat} {ix bu : Nat → Nat} {np : Nat} {st sr : Nat → Nat} {sx tk : Nat → Nat → Nat} {rn sh sn : Nat → Nat} {yw nw : Nat} {yo ce wo : Nat → Nat} {po ne : Nat → Option Nat} {cs : Nat → Nat} {sv : Nat → Nat → Nat} {mk : Nat} {sp rs : Nat → Int} {bg dp : Nat} {th_ nY_ : Nat} {ix_ bu_ : Nat → Nat} {np_ : Nat} {st_ sr_ go_ ca_ : Nat → Nat} {nw_ : Nat} {yo_ ce_ wo_ : Nat → Nat} {po_ ne_ : Nat → Option Nat} {sv_ : Nat → Nat} {cl_ : Nat → Bool} {mk_ bg_ dp_ : Nat} {sh_ nx_ : Nat → Nat} {spn_ : Int} (E : gE p s m #[Value.ref sb] c code 8 R_La V) (hX : va_X sb LL xs s s.heap) (hbl : sb < s.heap.size) (hXJ : XJ s) (hfl : l.flags = flags0) (hL : LL ≤ 2561) (hiL : ti + 5 ≤ LL) (hcl : cells + 1 ≤ 601024) (hsl : slots + 6 ≤ 7293000) (y v : Nat) (hy : y < nY) (hY : nY ≤ 12) (h2 : v ≤ 1000000000) (hy_ : y < nY_) (hY_ : nY_ ≤ 12) (h2_ : v ≤ 1000000000) (hx1 : xs (ti + 1) = nI y) (hx2 : xs (ti + 2) = nI v) (hE : nI (bu y) = nI (bu_ y)) (kk : gg p l e room_1 s m #[Value.ref sb] below meth c 8 (lw_Z below #[Value.ref sb] s) (cells) (slots) (gW V (fun q => s.heap.size ≤ q) s.heap (wG V oa ad r1 r2 r3 am ((nI (bu y)).toInt64) nY ix (va_up bu y v) np st sr sx tk rn sh sn yw nw yo ce wo po ne cs sv mk sp rs bg dp 0 nY_ ix_ (va_up bu_ y v) np_ st_ sr_ go_ ca_ nw_ yo_ ce_ wo_ po_ ne_ sv_ cl_ mk_ bg_ dp_ sh_ nx_ spn_)) [(4, .int (nI ti)), (3, .ref oa), (2, .ref (am 0)), (1, .ref (ad 0)), (0, .ref sb)] 1527 []) : gg p l e room_1 s m #[Value.ref sb] below meth c 8 (lw_Z below #[Value.ref sb] s) cells slots (gW V (fun q => s.heap.size ≤ q) s.heap (wG V oa ad r1 r2 r3 am ou nY ix bu np st sr sx tk rn sh sn yw nw yo ce wo po ne cs sv mk sp rs bg dp th_ nY_ ix_ bu_ np_ st_ sr_ go_ ca_ nw_ yo_ ce_ wo_ po_ ne_ sv_ cl_ mk_ bg_ dp_ sh_ nx_ spn_)) [(4, .int (nI ti)), (3, .ref oa), (2, .ref (am 0)), (1, .ref (ad 0)), (0, .ref sb)] 216 [] := by
  refine g_aload_n E d_La_law_216 rfl 3 rfl ?_
  refine g_aload_n E d_La_law_217 rfl 4 rfl ?_
  refine g_iload E d_La_law_218 0 rfl ?_
  refine g_iconst (v := nI 1) E d_La_law_220 (by decide) ?_
  refine g_iadd E d_La_law_221 ?_
  refine g_topi (nI_add _ _) ?_
  refine g_scr E hX hbl (by omega) (by omega) d_La_law_222 ?_
  refine g_topi hx1 ?_
  refine g_aload_n E d_La_law_223 rfl 4 rfl ?_
  refine g_iload E d_La_law_224 0 rfl ?_
  refine g_iconst (v := nI 2) E d_La_law_226 (by decide) ?_
  refine g_iadd E d_La_law_227 ?_
  refine g_topi (nI_add _ _) ?_
  refine g_scr E hX hbl (by omega) (by omega) d_La_law_228 ?_
  refine g_topi hx2 ?_
  refine g_aload_n E d_La_law_229 rfl 1 rfl ?_
  refine gwLi (w := wG V oa ad r1 r2 r3 am ou nY ix bu np st sr sx tk rn sh sn yw nw yo ce wo po ne cs sv mk sp rs bg dp th_ nY_ ix_ bu_ np_ st_ sr_ go_ ca_ nw_ yo_ ce_ wo_ po_ ne_ sv_ cl_ mk_ bg_ dp_ sh_ nx_ spn_) (w' := wG V oa ad r1 r2 r3 am ((nI (bu y)).toInt64) nY ix (va_up bu y v) np st sr sx tk rn sh sn yw nw yo ce wo po ne cs sv mk sp rs bg dp th_ nY_ ix_ bu_ np_ st_ sr_ go_ ca_ nw_ yo_ ce_ wo_ po_ ne_ sv_ cl_ mk_ bg_ dp_ sh_ nx_ spn_) (As := [.ref (ad 0), .int (nI y), .int (nI v), .ref oa]) (rest := []) E (fun _ h => h) (si (fi (pre := wM V am th_ nY_ ix_ bu_ np_ st_ sr_ go_ ca_ nw_ yo_ ce_ wo_ po_ ne_ sv_ cl_ mk_ bg_ dp_ sh_ nx_ spn_) (L_CY_budget l (oa := oa) (ou := ou) y v hy hY h2))) kc_La_budget kl_La_96 ks_La_budget kn_La kd_La_budget rfl rfl ⟨Nat.le_of_ble_eq_true rfl, Nat.le_of_ble_eq_true rfl⟩ rfl rfl (Nat.le_of_ble_eq_true rfl) ⟨by show _ ≤ 601024; omega, by show _ ≤ 7293000; omega⟩ d_La_law_230 ?_
  refine g_istore (lv' := [(5, .int (nI 0)), (4, .int (nI ti)), (3, .ref oa), (2, .ref (am 0)), (1, .ref (ad 0)), (0, .ref sb)]) E d_La_law_233 (by decide) rfl ?_
  refine g_aload_n E d_La_law_235 rfl 3 rfl ?_
  refine g_aload_n E d_La_law_236 rfl 5 rfl ?_
  refine g_iload E d_La_law_237 1 rfl ?_
  refine g_iconst (v := nI 1) E d_La_law_239 (by decide) ?_
  refine g_iadd E d_La_law_240 ?_
  refine g_topi (nI_add _ _) ?_
  refine g_scr E hX hbl (by omega) (by omega) d_La_law_241 ?_
  refine g_topi hx1 ?_
  refine g_aload_n E d_La_law_242 rfl 5 rfl ?_
  refine g_iload E d_La_law_243 1 rfl ?_
  refine g_iconst (v := nI 2) E d_La_law_245 (by decide) ?_
  refine g_iadd E d_La_law_246 ?_
  refine g_topi (nI_add _ _) ?_
  refine g_scr E hX hbl (by omega) (by omega) d_La_law_247 ?_
  refine g_topi hx2 ?_
  refine gwVi (w := wG V oa ad r1 r2 r3 am ((nI (bu y)).toInt64) nY ix (va_up bu y v) np st sr sx tk rn sh sn yw nw yo ce wo po ne cs sv mk sp rs bg dp th_ nY_ ix_ bu_ np_ st_ sr_ go_ ca_ nw_ yo_ ce_ wo_ po_ ne_ sv_ cl_ mk_ bg_ dp_ sh_ nx_ spn_) (w' := wG V oa ad r1 r2 r3 am ((nI (bu y)).toInt64) nY ix (va_up bu y v) np st sr sx tk rn sh sn yw nw yo ce wo po ne cs sv mk sp rs bg dp 0 nY_ ix_ (va_up bu_ y v) np_ st_ sr_ go_ ca_ nw_ yo_ ce_ wo_ po_ ne_ sv_ cl_ mk_ bg_ dp_ sh_ nx_ spn_) (mc := 0) (ms := 0) (As := [.int (nI y), .int (nI v)]) (rest := []) E (fun _ h => h) 57 wG_am rfl (fi (pre := (oa, aX V ((nI (bu y)).toInt64)) :: wC V ad r1 r2 r3 nY ix (va_up bu y v) np st sr sx tk rn sh sn yw nw yo ce wo po ne cs sv mk sp rs bg dp) (C_Mo_budget l y v hy_ hY_ h2_)) (cs_La_98 E rfl rfl ⟨Nat.le_of_ble_eq_true rfl, Nat.le_of_ble_eq_true rfl⟩) rfl rfl (Nat.le_of_ble_eq_true rfl) ⟨by show _ ≤ 601024; omega, by show _ ≤ 7293000; omega⟩ d_La_law_248 ?_
  refine g_istore (lv' := [(6, .int (nI (bu_ y))), (5, .int (nI 0)), (4, .int (nI ti)), (3, .ref oa), (2, .ref (am 0)), (1, .ref (ad 0)), (0, .ref sb)]) E d_La_law_251 (by decide) rfl ?_
  refine g_aload_n E d_La_law_253 rfl 4 rfl ?_
  refine gpVi (As := []) (rest := []) E gO_w 57 wG_am rfl (fpi0 (pre := (oa, aX V ((nI (bu y)).toInt64)) :: wC V ad r1 r2 r3 nY ix (va_up bu y v) np st sr sx tk rn sh sn yw nw yo ce wo po ne cs sv mk sp rs bg dp) (C_Mo_thrown l)) (cs_La_92 E rfl rfl ⟨Nat.le_of_ble_eq_true rfl, Nat.le_of_ble_eq_true rfl⟩) rfl rfl (Nat.le_of_ble_eq_true rfl) ⟨by show _ ≤ 601024; omega, by show _ ≤ 7293000; omega⟩ d_La_law_254 ?_
  refine g_iload E d_La_law_257 1 rfl ?_
  refine g_ncmp_eq E 264 d_La_law_259 (by decide) (by omega) (by omega) (fun h1 => ?_) (fun h1 => ?_)
  · refine g_iload E d_La_law_264 1 rfl ?_
    refine g_nif_ne E 281 d_La_law_266 (by decide) (by decide) (fun h2 => absurd h2 (by decide)) (fun _ => ?_)
    refine g_aload_n E d_La_law_269 rfl 3 rfl ?_
    refine g_iconst (v := nI 0) E d_La_law_270 (by decide) ?_
    refine g_ldX E gO_w 0 rfl d_La_law_271 ?_
    refine g_iload E d_La_law_272 0 rfl ?_
    refine g_i2l E d_La_law_274 ?_
    refine g_topl rfl ?_
    refine g_lcmp E d_La_law_275 ?_
    refine g_if_eq E 281 d_La_law_276 (by decide) (fun h3 => ?_) (fun h3 => ?_)
    · refine g_goto E 1527 d_La_law_281 (by decide) ?_
      refine g_lv [2, 3, 4, 5, 6] rfl ?_
      exact kk
    · exact absurd (lg_eq.mpr (by rw [hE])) h3
  · exact absurd rfl h1

set_option maxHeartbeats 4000000 in
set_option maxRecDepth 100000 in
theorem K_part {p : Program} {l : Launch} {e : Env} {s : State} {m : MethodId} {below : List Frame} {meth : Method} {c : Code} {V : gV} {sb LL ti cells slots : Nat} {xs : Nat → Int32} {oa : Nat} {am : Nat → Nat} {ou : Int64} {ad r1 r2 r3 : Nat → Nat} {nY : Nat} {ix bu : Nat → Nat} {np : Nat} {st sr : Nat → Nat} {sx tk : Nat → Nat → Nat} {rn sh sn : Nat → Nat} {yw nw : Nat} {yo ce wo : Nat → Nat} {po ne : Nat → Option Nat} {cs : Nat → Nat} {sv : Nat → Nat → Nat} {mk : Nat} {sp rs : Nat → Int} {bg dp : Nat} {th_ nY_ : Nat} {ix_ bu_ : Nat → Nat} {np_ : Nat} {st_ sr_ go_ ca_ : Nat → Nat} {nw_ : Nat} {yo_ ce_ wo_ : Nat → Nat} {po_ ne_ : Nat → Option Nat} {sv_ : Nat → Nat} {cl_ : Nat → Bool} {mk_ bg_ dp_ : Nat} {sh_ nx_ : Nat → Nat} {spn_ : Int} (E : gE p s m #[Value.ref sb] c code 8 R_La V) (hX : va_X sb LL xs s s.heap) (hbl : sb < s.heap.size) (hXJ : XJ s) (hfl : l.flags = flags0) (hL : LL ≤ 2561) (hiL : ti + 5 ≤ LL) (hcl : cells + 1 ≤ 601024) (hsl : slots + 6 ≤ 7293000) (k r : Nat) (h1 : 2 ≤ k) (h2 : k ≤ 4) (h3 : r < k) (hnp : np < 12) (h1_ : 2 ≤ k) (h2_ : k ≤ 4) (h3_ : r < k) (hnp_ : np_ < 12) (hx1 : xs (ti + 1) = nI k) (hx2 : xs (ti + 2) = nI r) (hE : nI np = nI np_) (kk : gg p l e room_1 s m #[Value.ref sb] below meth c 8 (lw_Z below #[Value.ref sb] s) (cells) (slots) (gW V (fun q => s.heap.size ≤ q) s.heap (wG V oa ad r1 r2 r3 am ((nI np).toInt64) nY ix bu (np + 1) (va_up st np k) (va_up sr np r) (va_up sx np (dgN (sx np) k)) tk rn sh sn yw nw yo ce wo po ne cs sv mk sp rs bg dp 0 nY_ ix_ bu_ (np_ + 1) (va_up st_ np_ k) (va_up sr_ np_ r) go_ ca_ nw_ yo_ ce_ wo_ po_ ne_ sv_ cl_ mk_ bg_ dp_ sh_ nx_ spn_)) [(4, .int (nI ti)), (3, .ref oa), (2, .ref (am 0)), (1, .ref (ad 0)), (0, .ref sb)] 1527 []) : gg p l e room_1 s m #[Value.ref sb] below meth c 8 (lw_Z below #[Value.ref sb] s) cells slots (gW V (fun q => s.heap.size ≤ q) s.heap (wG V oa ad r1 r2 r3 am ou nY ix bu np st sr sx tk rn sh sn yw nw yo ce wo po ne cs sv mk sp rs bg dp th_ nY_ ix_ bu_ np_ st_ sr_ go_ ca_ nw_ yo_ ce_ wo_ po_ ne_ sv_ cl_ mk_ bg_ dp_ sh_ nx_ spn_)) [(4, .int (nI ti)), (3, .ref oa), (2, .ref (am 0)), (1, .ref (ad 0)), (0, .ref sb)] 284 [] := by
  refine g_aload_n E d_La_law_284 rfl 3 rfl ?_
  refine g_aload_n E d_La_law_285 rfl 4 rfl ?_
  refine g_iload E d_La_law_286 0 rfl ?_
  refine g_iconst (v := nI 1) E d_La_law_288 (by decide) ?_
  refine g_iadd E d_La_law_289 ?_
  refine g_topi (nI_add _ _) ?_
  refine g_scr E hX hbl (by omega) (by omega) d_La_law_290 ?_
  refine g_topi hx1 ?_
  refine g_aload_n E d_La_law_291 rfl 4 rfl ?_
  refine g_iload E d_La_law_292 0 rfl ?_
  refine g_iconst (v := nI 2) E d_La_law_294 (by decide) ?_
  refine g_iadd E d_La_law_295 ?_
  refine g_topi (nI_add _ _) ?_
  refine g_scr E hX hbl (by omega) (by omega) d_La_law_296 ?_
  refine g_topi hx2 ?_
  refine g_aload_n E d_La_law_297 rfl 1 rfl ?_
  refine gwLi (w := wG V oa ad r1 r2 r3 am ou nY ix bu np st sr sx tk rn sh sn yw nw yo ce wo po ne cs sv mk sp rs bg dp th_ nY_ ix_ bu_ np_ st_ sr_ go_ ca_ nw_ yo_ ce_ wo_ po_ ne_ sv_ cl_ mk_ bg_ dp_ sh_ nx_ spn_) (w' := wG V oa ad r1 r2 r3 am ((nI np).toInt64) nY ix bu (np + 1) (va_up st np k) (va_up sr np r) (va_up sx np (dgN (sx np) k)) tk rn sh sn yw nw yo ce wo po ne cs sv mk sp rs bg dp th_ nY_ ix_ bu_ np_ st_ sr_ go_ ca_ nw_ yo_ ce_ wo_ po_ ne_ sv_ cl_ mk_ bg_ dp_ sh_ nx_ spn_) (As := [.ref (ad 0), .int (nI k), .int (nI r), .ref oa]) (rest := []) E (fun _ h => h) (si (fi (pre := wM V am th_ nY_ ix_ bu_ np_ st_ sr_ go_ ca_ nw_ yo_ ce_ wo_ po_ ne_ sv_ cl_ mk_ bg_ dp_ sh_ nx_ spn_) (L_CY_part l (oa := oa) (ou := ou) k r h1 h2 h3 hnp))) kc_La_part kl_La_99 ks_La_part kn_La kd_La_part rfl rfl ⟨Nat.le_of_ble_eq_true rfl, Nat.le_of_ble_eq_true rfl⟩ rfl rfl (Nat.le_of_ble_eq_true rfl) ⟨by show _ ≤ 601024; omega, by show _ ≤ 7293000; omega⟩ d_La_law_298 ?_
  refine g_istore (lv' := [(5, .int (nI 0)), (4, .int (nI ti)), (3, .ref oa), (2, .ref (am 0)), (1, .ref (ad 0)), (0, .ref sb)]) E d_La_law_301 (by decide) rfl ?_
  refine g_aload_n E d_La_law_303 rfl 3 rfl ?_
  refine g_aload_n E d_La_law_304 rfl 5 rfl ?_
  refine g_iload E d_La_law_305 1 rfl ?_
  refine g_iconst (v := nI 1) E d_La_law_307 (by decide) ?_
  refine g_iadd E d_La_law_308 ?_
  refine g_topi (nI_add _ _) ?_
  refine g_scr E hX hbl (by omega) (by omega) d_La_law_309 ?_
  refine g_topi hx1 ?_
  refine g_aload_n E d_La_law_310 rfl 5 rfl ?_
  refine g_iload E d_La_law_311 1 rfl ?_
  refine g_iconst (v := nI 2) E d_La_law_313 (by decide) ?_
  refine g_iadd E d_La_law_314 ?_
  refine g_topi (nI_add _ _) ?_
  refine g_scr E hX hbl (by omega) (by omega) d_La_law_315 ?_
  refine g_topi hx2 ?_
  refine gwVi (w := wG V oa ad r1 r2 r3 am ((nI np).toInt64) nY ix bu (np + 1) (va_up st np k) (va_up sr np r) (va_up sx np (dgN (sx np) k)) tk rn sh sn yw nw yo ce wo po ne cs sv mk sp rs bg dp th_ nY_ ix_ bu_ np_ st_ sr_ go_ ca_ nw_ yo_ ce_ wo_ po_ ne_ sv_ cl_ mk_ bg_ dp_ sh_ nx_ spn_) (w' := wG V oa ad r1 r2 r3 am ((nI np).toInt64) nY ix bu (np + 1) (va_up st np k) (va_up sr np r) (va_up sx np (dgN (sx np) k)) tk rn sh sn yw nw yo ce wo po ne cs sv mk sp rs bg dp 0 nY_ ix_ bu_ (np_ + 1) (va_up st_ np_ k) (va_up sr_ np_ r) go_ ca_ nw_ yo_ ce_ wo_ po_ ne_ sv_ cl_ mk_ bg_ dp_ sh_ nx_ spn_) (mc := 0) (ms := 0) (As := [.int (nI k), .int (nI r)]) (rest := []) E (fun _ h => h) 57 wG_am rfl (fi (pre := (oa, aX V ((nI np).toInt64)) :: wC V ad r1 r2 r3 nY ix bu (np + 1) (va_up st np k) (va_up sr np r) (va_up sx np (dgN (sx np) k)) tk rn sh sn yw nw yo ce wo po ne cs sv mk sp rs bg dp) (C_Mo_part l k r h1_ h2_ h3_ hnp_)) (cs_La_101 E rfl rfl ⟨Nat.le_of_ble_eq_true rfl, Nat.le_of_ble_eq_true rfl⟩) rfl rfl (Nat.le_of_ble_eq_true rfl) ⟨by show _ ≤ 601024; omega, by show _ ≤ 7293000; omega⟩ d_La_law_316 ?_
  refine g_istore (lv' := [(6, .int (nI np_)), (5, .int (nI 0)), (4, .int (nI ti)), (3, .ref oa), (2, .ref (am 0)), (1, .ref (ad 0)), (0, .ref sb)]) E d_La_law_319 (by decide) rfl ?_
  refine g_aload_n E d_La_law_321 rfl 4 rfl ?_
  refine gpVi (As := []) (rest := []) E gO_w 57 wG_am rfl (fpi0 (pre := (oa, aX V ((nI np).toInt64)) :: wC V ad r1 r2 r3 nY ix bu (np + 1) (va_up st np k) (va_up sr np r) (va_up sx np (dgN (sx np) k)) tk rn sh sn yw nw yo ce wo po ne cs sv mk sp rs bg dp) (C_Mo_thrown l)) (cs_La_92 E rfl rfl ⟨Nat.le_of_ble_eq_true rfl, Nat.le_of_ble_eq_true rfl⟩) rfl rfl (Nat.le_of_ble_eq_true rfl) ⟨by show _ ≤ 601024; omega, by show _ ≤ 7293000; omega⟩ d_La_law_322 ?_
  refine g_iload E d_La_law_325 1 rfl ?_
  refine g_ncmp_eq E 332 d_La_law_327 (by decide) (by omega) (by omega) (fun h1 => ?_) (fun h1 => ?_)
  · refine g_iload E d_La_law_332 1 rfl ?_
    refine g_nif_ne E 349 d_La_law_334 (by decide) (by decide) (fun h2 => absurd h2 (by decide)) (fun _ => ?_)
    refine g_aload_n E d_La_law_337 rfl 3 rfl ?_
    refine g_iconst (v := nI 0) E d_La_law_338 (by decide) ?_
    refine g_ldX E gO_w 0 rfl d_La_law_339 ?_
    refine g_iload E d_La_law_340 0 rfl ?_
    refine g_i2l E d_La_law_342 ?_
    refine g_topl rfl ?_
    refine g_lcmp E d_La_law_343 ?_
    refine g_if_eq E 349 d_La_law_344 (by decide) (fun h3 => ?_) (fun h3 => ?_)
    · refine g_goto E 1527 d_La_law_349 (by decide) ?_
      refine g_lv [2, 3, 4, 5, 6] rfl ?_
      exact kk
    · exact absurd (lg_eq.mpr (by rw [hE])) h3
  · exact absurd rfl h1

set_option maxHeartbeats 4000000 in
set_option maxRecDepth 100000 in
theorem K_moves {p : Program} {l : Launch} {e : Env} {s : State} {m : MethodId} {below : List Frame} {meth : Method} {c : Code} {V : gV} {sb LL ti cells slots : Nat} {xs : Nat → Int32} {oa : Nat} {am : Nat → Nat} {ou : Int64} {ad r1 r2 r3 : Nat → Nat} {nY : Nat} {ix bu : Nat → Nat} {np : Nat} {st sr : Nat → Nat} {sx tk : Nat → Nat → Nat} {rn sh sn : Nat → Nat} {yw nw : Nat} {yo ce wo : Nat → Nat} {po ne : Nat → Option Nat} {cs : Nat → Nat} {sv : Nat → Nat → Nat} {mk : Nat} {sp rs : Nat → Int} {bg dp : Nat} {th_ nY_ : Nat} {ix_ bu_ : Nat → Nat} {np_ : Nat} {st_ sr_ go_ ca_ : Nat → Nat} {nw_ : Nat} {yo_ ce_ wo_ : Nat → Nat} {po_ ne_ : Nat → Option Nat} {sv_ : Nat → Nat} {cl_ : Nat → Bool} {mk_ bg_ dp_ : Nat} {sh_ nx_ : Nat → Nat} {spn_ : Int} (E : gE p s m #[Value.ref sb] c code 8 R_La V) (hX : va_X sb LL xs s s.heap) (hbl : sb < s.heap.size) (hXJ : XJ s) (hfl : l.flags = flags0) (hL : LL ≤ 2561) (hiL : ti + 5 ≤ LL) (hcl : cells + 1 ≤ 601024) (hsl : slots + 6 ≤ 7293000) (i a b v : Nat) (hi : i < np) (hnp : np ≤ 12) (hs : st i ≤ 4) (ha : a < st i) (hb : b < st i) (hab : a ≠ b) (hv16 : v ≤ 16) (hsx : v ≤ sx i (a * 4 + a) + sx i (a * 4 + b)) (hx : ∀ i j, sx i j ≤ 16) (hi_ : i < np_) (hnp_ : np_ ≤ 12) (hst_ : ∀ i, st_ i ≤ 4) (ha_ : a < st_ i) (hb_ : b < st_ i) (hab_ : a ≠ b) (hv16_ : v ≤ 16) (hlv_ : lvN go_ i a ≤ 16) (hle_ : lvN go_ i a + v ≤ 16 + go_ (16 * i + 4 * a + b)) (hx1 : xs (ti + 1) = nI i) (hx2 : xs (ti + 2) = nI a) (hx3 : xs (ti + 3) = nI b) (hx4 : xs (ti + 4) = nI v) (hE : nI (sx i (a * 4 + b)) = nI (go_ (16 * i + 4 * a + b))) (kk : gg p l e room_1 s m #[Value.ref sb] below meth c 8 (lw_Z below #[Value.ref sb] s) (cells) (slots) (gW V (fun q => s.heap.size ≤ q) s.heap (wG V oa ad r1 r2 r3 am ((nI (sx i (a * 4 + b))).toInt64) nY ix bu np st sr (mUp (mUp sx i (a * 4 + b) v) i (a * 4 + a) (sx i (a * 4 + a) + sx i (a * 4 + b) - v)) tk rn sh sn yw nw yo ce wo po ne cs sv mk sp rs bg dp 0 nY_ ix_ bu_ np_ st_ sr_ (va_up go_ (16 * i + 4 * a + b) v) ca_ nw_ yo_ ce_ wo_ po_ ne_ sv_ cl_ mk_ bg_ dp_ sh_ nx_ spn_)) [(4, .int (nI ti)), (3, .ref oa), (2, .ref (am 0)), (1, .ref (ad 0)), (0, .ref sb)] 1527 []) : gg p l e room_1 s m #[Value.ref sb] below meth c 8 (lw_Z below #[Value.ref sb] s) cells slots (gW V (fun q => s.heap.size ≤ q) s.heap (wG V oa ad r1 r2 r3 am ou nY ix bu np st sr sx tk rn sh sn yw nw yo ce wo po ne cs sv mk sp rs bg dp th_ nY_ ix_ bu_ np_ st_ sr_ go_ ca_ nw_ yo_ ce_ wo_ po_ ne_ sv_ cl_ mk_ bg_ dp_ sh_ nx_ spn_)) [(4, .int (nI ti)), (3, .ref oa), (2, .ref (am 0)), (1, .ref (ad 0)), (0, .ref sb)] 352 [] := by
  refine g_aload_n E d_La_law_352 rfl 3 rfl ?_
  refine g_aload_n E d_La_law_353 rfl 4 rfl ?_
  refine g_iload E d_La_law_354 0 rfl ?_
  refine g_iconst (v := nI 1) E d_La_law_356 (by decide) ?_
  refine g_iadd E d_La_law_357 ?_
  refine g_topi (nI_add _ _) ?_
  refine g_scr E hX hbl (by omega) (by omega) d_La_law_358 ?_
  refine g_topi hx1 ?_
  refine g_aload_n E d_La_law_359 rfl 4 rfl ?_
  refine g_iload E d_La_law_360 0 rfl ?_
  refine g_iconst (v := nI 2) E d_La_law_362 (by decide) ?_
  refine g_iadd E d_La_law_363 ?_
  refine g_topi (nI_add _ _) ?_
  refine g_scr E hX hbl (by omega) (by omega) d_La_law_364 ?_
  refine g_topi hx2 ?_
  refine g_aload_n E d_La_law_365 rfl 4 rfl ?_
  refine g_iload E d_La_law_366 0 rfl ?_
  refine g_iconst (v := nI 3) E d_La_law_368 (by decide) ?_
  refine g_iadd E d_La_law_369 ?_
  refine g_topi (nI_add _ _) ?_
  refine g_scr E hX hbl (by omega) (by omega) d_La_law_370 ?_
  refine g_topi hx3 ?_
  refine g_aload_n E d_La_law_371 rfl 4 rfl ?_
  refine g_iload E d_La_law_372 0 rfl ?_
  refine g_iconst (v := nI 4) E d_La_law_374 (by decide) ?_
  refine g_iadd E d_La_law_375 ?_
  refine g_topi (nI_add _ _) ?_
  refine g_scr E hX hbl (by omega) (by omega) d_La_law_376 ?_
  refine g_topi hx4 ?_
  refine g_aload_n E d_La_law_377 rfl 1 rfl ?_
  refine gwLi (w := wG V oa ad r1 r2 r3 am ou nY ix bu np st sr sx tk rn sh sn yw nw yo ce wo po ne cs sv mk sp rs bg dp th_ nY_ ix_ bu_ np_ st_ sr_ go_ ca_ nw_ yo_ ce_ wo_ po_ ne_ sv_ cl_ mk_ bg_ dp_ sh_ nx_ spn_) (w' := wG V oa ad r1 r2 r3 am ((nI (sx i (a * 4 + b))).toInt64) nY ix bu np st sr (mUp (mUp sx i (a * 4 + b) v) i (a * 4 + a) (sx i (a * 4 + a) + sx i (a * 4 + b) - v)) tk rn sh sn yw nw yo ce wo po ne cs sv mk sp rs bg dp th_ nY_ ix_ bu_ np_ st_ sr_ go_ ca_ nw_ yo_ ce_ wo_ po_ ne_ sv_ cl_ mk_ bg_ dp_ sh_ nx_ spn_) (As := [.ref (ad 0), .int (nI i), .int (nI a), .int (nI b), .int (nI v), .ref oa]) (rest := []) E (fun _ h => h) (si (fi (pre := wM V am th_ nY_ ix_ bu_ np_ st_ sr_ go_ ca_ nw_ yo_ ce_ wo_ po_ ne_ sv_ cl_ mk_ bg_ dp_ sh_ nx_ spn_) (L_CY_moves l (oa := oa) (ou := ou) i a b v hi hnp hs ha hb hab hv16 hsx hx))) kc_La_moves kl_La_102 ks_La_moves kn_La kd_La_moves rfl rfl ⟨Nat.le_of_ble_eq_true rfl, Nat.le_of_ble_eq_true rfl⟩ rfl rfl (Nat.le_of_ble_eq_true rfl) ⟨by show _ ≤ 601024; omega, by show _ ≤ 7293000; omega⟩ d_La_law_378 ?_
  refine g_istore (lv' := [(5, .int (nI 0)), (4, .int (nI ti)), (3, .ref oa), (2, .ref (am 0)), (1, .ref (ad 0)), (0, .ref sb)]) E d_La_law_381 (by decide) rfl ?_
  refine g_aload_n E d_La_law_383 rfl 3 rfl ?_
  refine g_aload_n E d_La_law_384 rfl 5 rfl ?_
  refine g_iload E d_La_law_385 1 rfl ?_
  refine g_iconst (v := nI 1) E d_La_law_387 (by decide) ?_
  refine g_iadd E d_La_law_388 ?_
  refine g_topi (nI_add _ _) ?_
  refine g_scr E hX hbl (by omega) (by omega) d_La_law_389 ?_
  refine g_topi hx1 ?_
  refine g_aload_n E d_La_law_390 rfl 5 rfl ?_
  refine g_iload E d_La_law_391 1 rfl ?_
  refine g_iconst (v := nI 2) E d_La_law_393 (by decide) ?_
  refine g_iadd E d_La_law_394 ?_
  refine g_topi (nI_add _ _) ?_
  refine g_scr E hX hbl (by omega) (by omega) d_La_law_395 ?_
  refine g_topi hx2 ?_
  refine g_aload_n E d_La_law_396 rfl 5 rfl ?_
  refine g_iload E d_La_law_397 1 rfl ?_
  refine g_iconst (v := nI 3) E d_La_law_399 (by decide) ?_
  refine g_iadd E d_La_law_400 ?_
  refine g_topi (nI_add _ _) ?_
  refine g_scr E hX hbl (by omega) (by omega) d_La_law_401 ?_
  refine g_topi hx3 ?_
  refine g_aload_n E d_La_law_402 rfl 5 rfl ?_
  refine g_iload E d_La_law_403 1 rfl ?_
  refine g_iconst (v := nI 4) E d_La_law_405 (by decide) ?_
  refine g_iadd E d_La_law_406 ?_
  refine g_topi (nI_add _ _) ?_
  refine g_scr E hX hbl (by omega) (by omega) d_La_law_407 ?_
  refine g_topi hx4 ?_
  refine gwVi (w := wG V oa ad r1 r2 r3 am ((nI (sx i (a * 4 + b))).toInt64) nY ix bu np st sr (mUp (mUp sx i (a * 4 + b) v) i (a * 4 + a) (sx i (a * 4 + a) + sx i (a * 4 + b) - v)) tk rn sh sn yw nw yo ce wo po ne cs sv mk sp rs bg dp th_ nY_ ix_ bu_ np_ st_ sr_ go_ ca_ nw_ yo_ ce_ wo_ po_ ne_ sv_ cl_ mk_ bg_ dp_ sh_ nx_ spn_) (w' := wG V oa ad r1 r2 r3 am ((nI (sx i (a * 4 + b))).toInt64) nY ix bu np st sr (mUp (mUp sx i (a * 4 + b) v) i (a * 4 + a) (sx i (a * 4 + a) + sx i (a * 4 + b) - v)) tk rn sh sn yw nw yo ce wo po ne cs sv mk sp rs bg dp 0 nY_ ix_ bu_ np_ st_ sr_ (va_up go_ (16 * i + 4 * a + b) v) ca_ nw_ yo_ ce_ wo_ po_ ne_ sv_ cl_ mk_ bg_ dp_ sh_ nx_ spn_) (mc := 0) (ms := 0) (As := [.int (nI i), .int (nI a), .int (nI b), .int (nI v)]) (rest := []) E (fun _ h => h) 57 wG_am rfl (fi (pre := (oa, aX V ((nI (sx i (a * 4 + b))).toInt64)) :: wC V ad r1 r2 r3 nY ix bu np st sr (mUp (mUp sx i (a * 4 + b) v) i (a * 4 + a) (sx i (a * 4 + a) + sx i (a * 4 + b) - v)) tk rn sh sn yw nw yo ce wo po ne cs sv mk sp rs bg dp) (C_Mo_moves l i a b v hi_ hnp_ hst_ ha_ hb_ hab_ hv16_ hlv_ hle_)) (cs_La_105 E rfl rfl ⟨Nat.le_of_ble_eq_true rfl, Nat.le_of_ble_eq_true rfl⟩) rfl rfl (Nat.le_of_ble_eq_true rfl) ⟨by show _ ≤ 601024; omega, by show _ ≤ 7293000; omega⟩ d_La_law_408 ?_
  refine g_istore (lv' := [(6, .int (nI (go_ (16 * i + 4 * a + b)))), (5, .int (nI 0)), (4, .int (nI ti)), (3, .ref oa), (2, .ref (am 0)), (1, .ref (ad 0)), (0, .ref sb)]) E d_La_law_411 (by decide) rfl ?_
  refine g_aload_n E d_La_law_413 rfl 4 rfl ?_
  refine gpVi (As := []) (rest := []) E gO_w 57 wG_am rfl (fpi0 (pre := (oa, aX V ((nI (sx i (a * 4 + b))).toInt64)) :: wC V ad r1 r2 r3 nY ix bu np st sr (mUp (mUp sx i (a * 4 + b) v) i (a * 4 + a) (sx i (a * 4 + a) + sx i (a * 4 + b) - v)) tk rn sh sn yw nw yo ce wo po ne cs sv mk sp rs bg dp) (C_Mo_thrown l)) (cs_La_92 E rfl rfl ⟨Nat.le_of_ble_eq_true rfl, Nat.le_of_ble_eq_true rfl⟩) rfl rfl (Nat.le_of_ble_eq_true rfl) ⟨by show _ ≤ 601024; omega, by show _ ≤ 7293000; omega⟩ d_La_law_414 ?_
  refine g_iload E d_La_law_417 1 rfl ?_
  refine g_ncmp_eq E 424 d_La_law_419 (by decide) (by omega) (by omega) (fun h1 => ?_) (fun h1 => ?_)
  · refine g_iload E d_La_law_424 1 rfl ?_
    refine g_nif_ne E 441 d_La_law_426 (by decide) (by decide) (fun h2 => absurd h2 (by decide)) (fun _ => ?_)
    refine g_aload_n E d_La_law_429 rfl 3 rfl ?_
    refine g_iconst (v := nI 0) E d_La_law_430 (by decide) ?_
    refine g_ldX E gO_w 0 rfl d_La_law_431 ?_
    refine g_iload E d_La_law_432 0 rfl ?_
    refine g_i2l E d_La_law_434 ?_
    refine g_topl rfl ?_
    refine g_lcmp E d_La_law_435 ?_
    refine g_if_eq E 441 d_La_law_436 (by decide) (fun h3 => ?_) (fun h3 => ?_)
    · refine g_goto E 1527 d_La_law_441 (by decide) ?_
      refine g_lv [2, 3, 4, 5, 6] rfl ?_
      exact kk
    · exact absurd (lg_eq.mpr (by rw [hE])) h3
  · exact absurd rfl h1

set_option maxHeartbeats 4000000 in
set_option maxRecDepth 100000 in
theorem K_care {p : Program} {l : Launch} {e : Env} {s : State} {m : MethodId} {below : List Frame} {meth : Method} {c : Code} {V : gV} {sb LL ti cells slots : Nat} {xs : Nat → Int32} {oa : Nat} {am : Nat → Nat} {ou : Int64} {ad r1 r2 r3 : Nat → Nat} {nY : Nat} {ix bu : Nat → Nat} {np : Nat} {st sr : Nat → Nat} {sx tk : Nat → Nat → Nat} {rn sh sn : Nat → Nat} {yw nw : Nat} {yo ce wo : Nat → Nat} {po ne : Nat → Option Nat} {cs : Nat → Nat} {sv : Nat → Nat → Nat} {mk : Nat} {sp rs : Nat → Int} {bg dp : Nat} {th_ nY_ : Nat} {ix_ bu_ : Nat → Nat} {np_ : Nat} {st_ sr_ go_ ca_ : Nat → Nat} {nw_ : Nat} {yo_ ce_ wo_ : Nat → Nat} {po_ ne_ : Nat → Option Nat} {sv_ : Nat → Nat} {cl_ : Nat → Bool} {mk_ bg_ dp_ : Nat} {sh_ nx_ : Nat → Nat} {spn_ : Int} (E : gE p s m #[Value.ref sb] c code 8 R_La V) (hX : va_X sb LL xs s s.heap) (hbl : sb < s.heap.size) (hXJ : XJ s) (hfl : l.flags = flags0) (hL : LL ≤ 2561) (hiL : ti + 5 ≤ LL) (hcl : cells + 1 ≤ 601024) (hsl : slots + 6 ≤ 7293000) (i a v : Nat) (hi : i < np) (hnp : np ≤ 12) (hs : st i ≤ 4) (ha : a < st i) (h2 : v ≤ 1000) (hi_ : i < np_) (hnp_ : np_ ≤ 12) (hst_ : ∀ i, st_ i ≤ 4) (ha_ : a < st_ i) (h2_ : v ≤ 1000) (hx1 : xs (ti + 1) = nI i) (hx2 : xs (ti + 2) = nI a) (hx3 : xs (ti + 3) = nI v) (hE : nI (tk i a) = nI (ca_ (4 * i + a))) (kk : gg p l e room_1 s m #[Value.ref sb] below meth c 8 (lw_Z below #[Value.ref sb] s) (cells) (slots) (gW V (fun q => s.heap.size ≤ q) s.heap (wG V oa ad r1 r2 r3 am ((nI (tk i a)).toInt64) nY ix bu np st sr sx (mUp tk i a v) rn sh sn yw nw yo ce wo po ne cs sv mk sp rs bg dp 0 nY_ ix_ bu_ np_ st_ sr_ go_ (va_up ca_ (4 * i + a) v) nw_ yo_ ce_ wo_ po_ ne_ sv_ cl_ mk_ bg_ dp_ sh_ nx_ spn_)) [(4, .int (nI ti)), (3, .ref oa), (2, .ref (am 0)), (1, .ref (ad 0)), (0, .ref sb)] 1527 []) : gg p l e room_1 s m #[Value.ref sb] below meth c 8 (lw_Z below #[Value.ref sb] s) cells slots (gW V (fun q => s.heap.size ≤ q) s.heap (wG V oa ad r1 r2 r3 am ou nY ix bu np st sr sx tk rn sh sn yw nw yo ce wo po ne cs sv mk sp rs bg dp th_ nY_ ix_ bu_ np_ st_ sr_ go_ ca_ nw_ yo_ ce_ wo_ po_ ne_ sv_ cl_ mk_ bg_ dp_ sh_ nx_ spn_)) [(4, .int (nI ti)), (3, .ref oa), (2, .ref (am 0)), (1, .ref (ad 0)), (0, .ref sb)] 444 [] := by
  refine g_aload_n E d_La_law_444 rfl 3 rfl ?_
  refine g_aload_n E d_La_law_445 rfl 4 rfl ?_
  refine g_iload E d_La_law_446 0 rfl ?_
  refine g_iconst (v := nI 1) E d_La_law_448 (by decide) ?_
  refine g_iadd E d_La_law_449 ?_
  refine g_topi (nI_add _ _) ?_
  refine g_scr E hX hbl (by omega) (by omega) d_La_law_450 ?_
  refine g_topi hx1 ?_
  refine g_aload_n E d_La_law_451 rfl 4 rfl ?_
  refine g_iload E d_La_law_452 0 rfl ?_
  refine g_iconst (v := nI 2) E d_La_law_454 (by decide) ?_
  refine g_iadd E d_La_law_455 ?_
  refine g_topi (nI_add _ _) ?_
  refine g_scr E hX hbl (by omega) (by omega) d_La_law_456 ?_
  refine g_topi hx2 ?_
  refine g_aload_n E d_La_law_457 rfl 4 rfl ?_
  refine g_iload E d_La_law_458 0 rfl ?_
  refine g_iconst (v := nI 3) E d_La_law_460 (by decide) ?_
  refine g_iadd E d_La_law_461 ?_
  refine g_topi (nI_add _ _) ?_
  refine g_scr E hX hbl (by omega) (by omega) d_La_law_462 ?_
  refine g_topi hx3 ?_
  refine g_aload_n E d_La_law_463 rfl 1 rfl ?_
  refine gwLi (w := wG V oa ad r1 r2 r3 am ou nY ix bu np st sr sx tk rn sh sn yw nw yo ce wo po ne cs sv mk sp rs bg dp th_ nY_ ix_ bu_ np_ st_ sr_ go_ ca_ nw_ yo_ ce_ wo_ po_ ne_ sv_ cl_ mk_ bg_ dp_ sh_ nx_ spn_) (w' := wG V oa ad r1 r2 r3 am ((nI (tk i a)).toInt64) nY ix bu np st sr sx (mUp tk i a v) rn sh sn yw nw yo ce wo po ne cs sv mk sp rs bg dp th_ nY_ ix_ bu_ np_ st_ sr_ go_ ca_ nw_ yo_ ce_ wo_ po_ ne_ sv_ cl_ mk_ bg_ dp_ sh_ nx_ spn_) (As := [.ref (ad 0), .int (nI i), .int (nI a), .int (nI v), .ref oa]) (rest := []) E (fun _ h => h) (si (fi (pre := wM V am th_ nY_ ix_ bu_ np_ st_ sr_ go_ ca_ nw_ yo_ ce_ wo_ po_ ne_ sv_ cl_ mk_ bg_ dp_ sh_ nx_ spn_) (L_CY_care l (oa := oa) (ou := ou) i a v hi hnp hs ha h2))) kc_La_care kl_La_106 ks_La_care kn_La kd_La_care rfl rfl ⟨Nat.le_of_ble_eq_true rfl, Nat.le_of_ble_eq_true rfl⟩ rfl rfl (Nat.le_of_ble_eq_true rfl) ⟨by show _ ≤ 601024; omega, by show _ ≤ 7293000; omega⟩ d_La_law_464 ?_
  refine g_istore (lv' := [(5, .int (nI 0)), (4, .int (nI ti)), (3, .ref oa), (2, .ref (am 0)), (1, .ref (ad 0)), (0, .ref sb)]) E d_La_law_467 (by decide) rfl ?_
  refine g_aload_n E d_La_law_469 rfl 3 rfl ?_
  refine g_aload_n E d_La_law_470 rfl 5 rfl ?_
  refine g_iload E d_La_law_471 1 rfl ?_
  refine g_iconst (v := nI 1) E d_La_law_473 (by decide) ?_
  refine g_iadd E d_La_law_474 ?_
  refine g_topi (nI_add _ _) ?_
  refine g_scr E hX hbl (by omega) (by omega) d_La_law_475 ?_
  refine g_topi hx1 ?_
  refine g_aload_n E d_La_law_476 rfl 5 rfl ?_
  refine g_iload E d_La_law_477 1 rfl ?_
  refine g_iconst (v := nI 2) E d_La_law_479 (by decide) ?_
  refine g_iadd E d_La_law_480 ?_
  refine g_topi (nI_add _ _) ?_
  refine g_scr E hX hbl (by omega) (by omega) d_La_law_481 ?_
  refine g_topi hx2 ?_
  refine g_aload_n E d_La_law_482 rfl 5 rfl ?_
  refine g_iload E d_La_law_483 1 rfl ?_
  refine g_iconst (v := nI 3) E d_La_law_485 (by decide) ?_
  refine g_iadd E d_La_law_486 ?_
  refine g_topi (nI_add _ _) ?_
  refine g_scr E hX hbl (by omega) (by omega) d_La_law_487 ?_
  refine g_topi hx3 ?_
  refine gwVi (w := wG V oa ad r1 r2 r3 am ((nI (tk i a)).toInt64) nY ix bu np st sr sx (mUp tk i a v) rn sh sn yw nw yo ce wo po ne cs sv mk sp rs bg dp th_ nY_ ix_ bu_ np_ st_ sr_ go_ ca_ nw_ yo_ ce_ wo_ po_ ne_ sv_ cl_ mk_ bg_ dp_ sh_ nx_ spn_) (w' := wG V oa ad r1 r2 r3 am ((nI (tk i a)).toInt64) nY ix bu np st sr sx (mUp tk i a v) rn sh sn yw nw yo ce wo po ne cs sv mk sp rs bg dp 0 nY_ ix_ bu_ np_ st_ sr_ go_ (va_up ca_ (4 * i + a) v) nw_ yo_ ce_ wo_ po_ ne_ sv_ cl_ mk_ bg_ dp_ sh_ nx_ spn_) (mc := 0) (ms := 0) (As := [.int (nI i), .int (nI a), .int (nI v)]) (rest := []) E (fun _ h => h) 57 wG_am rfl (fi (pre := (oa, aX V ((nI (tk i a)).toInt64)) :: wC V ad r1 r2 r3 nY ix bu np st sr sx (mUp tk i a v) rn sh sn yw nw yo ce wo po ne cs sv mk sp rs bg dp) (C_Mo_care l i a v hi_ hnp_ hst_ ha_ h2_)) (cs_La_109 E rfl rfl ⟨Nat.le_of_ble_eq_true rfl, Nat.le_of_ble_eq_true rfl⟩) rfl rfl (Nat.le_of_ble_eq_true rfl) ⟨by show _ ≤ 601024; omega, by show _ ≤ 7293000; omega⟩ d_La_law_488 ?_
  refine g_istore (lv' := [(6, .int (nI (ca_ (4 * i + a)))), (5, .int (nI 0)), (4, .int (nI ti)), (3, .ref oa), (2, .ref (am 0)), (1, .ref (ad 0)), (0, .ref sb)]) E d_La_law_491 (by decide) rfl ?_
  refine g_aload_n E d_La_law_493 rfl 4 rfl ?_
  refine gpVi (As := []) (rest := []) E gO_w 57 wG_am rfl (fpi0 (pre := (oa, aX V ((nI (tk i a)).toInt64)) :: wC V ad r1 r2 r3 nY ix bu np st sr sx (mUp tk i a v) rn sh sn yw nw yo ce wo po ne cs sv mk sp rs bg dp) (C_Mo_thrown l)) (cs_La_92 E rfl rfl ⟨Nat.le_of_ble_eq_true rfl, Nat.le_of_ble_eq_true rfl⟩) rfl rfl (Nat.le_of_ble_eq_true rfl) ⟨by show _ ≤ 601024; omega, by show _ ≤ 7293000; omega⟩ d_La_law_494 ?_
  refine g_iload E d_La_law_497 1 rfl ?_
  refine g_ncmp_eq E 504 d_La_law_499 (by decide) (by omega) (by omega) (fun h1 => ?_) (fun h1 => ?_)
  · refine g_iload E d_La_law_504 1 rfl ?_
    refine g_nif_ne E 521 d_La_law_506 (by decide) (by decide) (fun h2 => absurd h2 (by decide)) (fun _ => ?_)
    refine g_aload_n E d_La_law_509 rfl 3 rfl ?_
    refine g_iconst (v := nI 0) E d_La_law_510 (by decide) ?_
    refine g_ldX E gO_w 0 rfl d_La_law_511 ?_
    refine g_iload E d_La_law_512 0 rfl ?_
    refine g_i2l E d_La_law_514 ?_
    refine g_topl rfl ?_
    refine g_lcmp E d_La_law_515 ?_
    refine g_if_eq E 521 d_La_law_516 (by decide) (fun h3 => ?_) (fun h3 => ?_)
    · refine g_goto E 1527 d_La_law_521 (by decide) ?_
      refine g_lv [2, 3, 4, 5, 6] rfl ?_
      exact kk
    · exact absurd (lg_eq.mpr (by rw [hE])) h3
  · exact absurd rfl h1

set_option maxHeartbeats 4000000 in
set_option maxRecDepth 100000 in
theorem K_share {p : Program} {l : Launch} {e : Env} {s : State} {m : MethodId} {below : List Frame} {meth : Method} {c : Code} {V : gV} {sb LL ti cells slots : Nat} {xs : Nat → Int32} {oa : Nat} {am : Nat → Nat} {ou : Int64} {ad r1 r2 r3 : Nat → Nat} {nY : Nat} {ix bu : Nat → Nat} {np : Nat} {st sr : Nat → Nat} {sx tk : Nat → Nat → Nat} {rn sh sn : Nat → Nat} {yw nw : Nat} {yo ce wo : Nat → Nat} {po ne : Nat → Option Nat} {cs : Nat → Nat} {sv : Nat → Nat → Nat} {mk : Nat} {sp rs : Nat → Int} {bg dp : Nat} {th_ nY_ : Nat} {ix_ bu_ : Nat → Nat} {np_ : Nat} {st_ sr_ go_ ca_ : Nat → Nat} {nw_ : Nat} {yo_ ce_ wo_ : Nat → Nat} {po_ ne_ : Nat → Option Nat} {sv_ : Nat → Nat} {cl_ : Nat → Bool} {mk_ bg_ dp_ : Nat} {sh_ nx_ : Nat → Nat} {spn_ : Int} (E : gE p s m #[Value.ref sb] c code 8 R_La V) (hX : va_X sb LL xs s s.heap) (hbl : sb < s.heap.size) (hXJ : XJ s) (hfl : l.flags = flags0) (hL : LL ≤ 2561) (hiL : ti + 5 ≤ LL) (hcl : cells + 1 ≤ 601024) (hsl : slots + 6 ≤ 7293000) (i a y : Nat) (hi : i < np) (hnp : np ≤ 12) (hs : st i ≤ 4) (ha : a < st i) (hy : y < nY) (hY : nY ≤ 12) (hr : sr i < 4) (hn : rn i < 4096) (hx : ∀ i j, sx i j ≤ 16) (hi_ : i < np_) (hnp_ : np_ ≤ 12) (hst_ : ∀ i, st_ i ≤ 4) (ha_ : a < st_ i) (hy_ : y < nY_) (hY_ : nY_ ≤ 12) (hr_ : sr_ i < 4) (hnw_ : nw_ ≤ 10) (hmk_ : mk_ < 1024) (hyo_ : ∀ w, yo_ w < 12) (hpo_ : ∀ w q, po_ w = some q → q < 12) (hlv_ : ∀ p a, lvN go_ p a ≤ 16) (hgo_ : ∀ j, go_ j ≤ 16) (hx1 : xs (ti + 1) = nI i) (hx2 : xs (ti + 2) = nI a) (hx3 : xs (ti + 3) = nI y) (hE : lN ((eY (sr i) (sx i) (st i) (rn i) sh sn yw (y + 1)).1 a) = lN ((lrn go_ sr_ po_ yo_ mk_ nw_ i y (sh_, nx_)).1 a)) (kk : gg p l e room_1 s m #[Value.ref sb] below meth c 8 (lw_Z below #[Value.ref sb] s) (cells) (slots) (gW V (fun q => s.heap.size ≤ q) s.heap (wG V oa ad r1 r2 r3 am (lN ((eY (sr i) (sx i) (st i) (rn i) sh sn yw (y + 1)).1 a)) nY ix bu np st sr sx tk rn ((eY (sr i) (sx i) (st i) (rn i) sh sn yw (y + 1)).1) ((eY (sr i) (sx i) (st i) (rn i) sh sn yw (y + 1)).2.2) ((eY (sr i) (sx i) (st i) (rn i) sh sn yw (y + 1)).2.1) nw yo ce wo po ne cs sv mk sp rs bg dp 0 nY_ ix_ bu_ np_ st_ sr_ go_ ca_ nw_ yo_ ce_ wo_ po_ ne_ sv_ cl_ mk_ bg_ dp_ ((lrn go_ sr_ po_ yo_ mk_ nw_ i y (sh_, nx_)).1) ((lrn go_ sr_ po_ yo_ mk_ nw_ i y (sh_, nx_)).2) spn_)) [(4, .int (nI ti)), (3, .ref oa), (2, .ref (am 0)), (1, .ref (ad 0)), (0, .ref sb)] 1527 []) : gg p l e room_1 s m #[Value.ref sb] below meth c 8 (lw_Z below #[Value.ref sb] s) cells slots (gW V (fun q => s.heap.size ≤ q) s.heap (wG V oa ad r1 r2 r3 am ou nY ix bu np st sr sx tk rn sh sn yw nw yo ce wo po ne cs sv mk sp rs bg dp th_ nY_ ix_ bu_ np_ st_ sr_ go_ ca_ nw_ yo_ ce_ wo_ po_ ne_ sv_ cl_ mk_ bg_ dp_ sh_ nx_ spn_)) [(4, .int (nI ti)), (3, .ref oa), (2, .ref (am 0)), (1, .ref (ad 0)), (0, .ref sb)] 524 [] := by
  refine g_aload_n E d_La_law_524 rfl 3 rfl ?_
  refine g_aload_n E d_La_law_525 rfl 4 rfl ?_
  refine g_iload E d_La_law_526 0 rfl ?_
  refine g_iconst (v := nI 1) E d_La_law_528 (by decide) ?_
  refine g_iadd E d_La_law_529 ?_
  refine g_topi (nI_add _ _) ?_
  refine g_scr E hX hbl (by omega) (by omega) d_La_law_530 ?_
  refine g_topi hx1 ?_
  refine g_aload_n E d_La_law_531 rfl 4 rfl ?_
  refine g_iload E d_La_law_532 0 rfl ?_
  refine g_iconst (v := nI 2) E d_La_law_534 (by decide) ?_
  refine g_iadd E d_La_law_535 ?_
  refine g_topi (nI_add _ _) ?_
  refine g_scr E hX hbl (by omega) (by omega) d_La_law_536 ?_
  refine g_topi hx2 ?_
  refine g_aload_n E d_La_law_537 rfl 4 rfl ?_
  refine g_iload E d_La_law_538 0 rfl ?_
  refine g_iconst (v := nI 3) E d_La_law_540 (by decide) ?_
  refine g_iadd E d_La_law_541 ?_
  refine g_topi (nI_add _ _) ?_
  refine g_scr E hX hbl (by omega) (by omega) d_La_law_542 ?_
  refine g_topi hx3 ?_
  refine g_aload_n E d_La_law_543 rfl 1 rfl ?_
  refine gwLi (w := wG V oa ad r1 r2 r3 am ou nY ix bu np st sr sx tk rn sh sn yw nw yo ce wo po ne cs sv mk sp rs bg dp th_ nY_ ix_ bu_ np_ st_ sr_ go_ ca_ nw_ yo_ ce_ wo_ po_ ne_ sv_ cl_ mk_ bg_ dp_ sh_ nx_ spn_) (w' := wG V oa ad r1 r2 r3 am (lN ((eY (sr i) (sx i) (st i) (rn i) sh sn yw (y + 1)).1 a)) nY ix bu np st sr sx tk rn ((eY (sr i) (sx i) (st i) (rn i) sh sn yw (y + 1)).1) ((eY (sr i) (sx i) (st i) (rn i) sh sn yw (y + 1)).2.2) ((eY (sr i) (sx i) (st i) (rn i) sh sn yw (y + 1)).2.1) nw yo ce wo po ne cs sv mk sp rs bg dp th_ nY_ ix_ bu_ np_ st_ sr_ go_ ca_ nw_ yo_ ce_ wo_ po_ ne_ sv_ cl_ mk_ bg_ dp_ sh_ nx_ spn_) (As := [.ref (ad 0), .int (nI i), .int (nI a), .int (nI y), .ref oa]) (rest := []) E (fun _ h => h) (si (fi (pre := wM V am th_ nY_ ix_ bu_ np_ st_ sr_ go_ ca_ nw_ yo_ ce_ wo_ po_ ne_ sv_ cl_ mk_ bg_ dp_ sh_ nx_ spn_) (L_CY_share l (oa := oa) (ou := ou) i a y hi hnp hs ha hy hY hr hn hx))) kc_La_share kl_La_110 ks_La_share kn_La kd_La_share rfl rfl ⟨Nat.le_of_ble_eq_true rfl, Nat.le_of_ble_eq_true rfl⟩ rfl rfl (Nat.le_of_ble_eq_true rfl) ⟨by show _ ≤ 601024; omega, by show _ ≤ 7293000; omega⟩ d_La_law_544 ?_
  refine g_istore (lv' := [(5, .int (nI 0)), (4, .int (nI ti)), (3, .ref oa), (2, .ref (am 0)), (1, .ref (ad 0)), (0, .ref sb)]) E d_La_law_547 (by decide) rfl ?_
  refine g_aload_n E d_La_law_549 rfl 3 rfl ?_
  refine g_aload_n E d_La_law_550 rfl 5 rfl ?_
  refine g_iload E d_La_law_551 1 rfl ?_
  refine g_iconst (v := nI 1) E d_La_law_553 (by decide) ?_
  refine g_iadd E d_La_law_554 ?_
  refine g_topi (nI_add _ _) ?_
  refine g_scr E hX hbl (by omega) (by omega) d_La_law_555 ?_
  refine g_topi hx1 ?_
  refine g_aload_n E d_La_law_556 rfl 5 rfl ?_
  refine g_iload E d_La_law_557 1 rfl ?_
  refine g_iconst (v := nI 2) E d_La_law_559 (by decide) ?_
  refine g_iadd E d_La_law_560 ?_
  refine g_topi (nI_add _ _) ?_
  refine g_scr E hX hbl (by omega) (by omega) d_La_law_561 ?_
  refine g_topi hx2 ?_
  refine g_aload_n E d_La_law_562 rfl 5 rfl ?_
  refine g_iload E d_La_law_563 1 rfl ?_
  refine g_iconst (v := nI 3) E d_La_law_565 (by decide) ?_
  refine g_iadd E d_La_law_566 ?_
  refine g_topi (nI_add _ _) ?_
  refine g_scr E hX hbl (by omega) (by omega) d_La_law_567 ?_
  refine g_topi hx3 ?_
  refine gwVl (w := wG V oa ad r1 r2 r3 am (lN ((eY (sr i) (sx i) (st i) (rn i) sh sn yw (y + 1)).1 a)) nY ix bu np st sr sx tk rn ((eY (sr i) (sx i) (st i) (rn i) sh sn yw (y + 1)).1) ((eY (sr i) (sx i) (st i) (rn i) sh sn yw (y + 1)).2.2) ((eY (sr i) (sx i) (st i) (rn i) sh sn yw (y + 1)).2.1) nw yo ce wo po ne cs sv mk sp rs bg dp th_ nY_ ix_ bu_ np_ st_ sr_ go_ ca_ nw_ yo_ ce_ wo_ po_ ne_ sv_ cl_ mk_ bg_ dp_ sh_ nx_ spn_) (w' := wG V oa ad r1 r2 r3 am (lN ((eY (sr i) (sx i) (st i) (rn i) sh sn yw (y + 1)).1 a)) nY ix bu np st sr sx tk rn ((eY (sr i) (sx i) (st i) (rn i) sh sn yw (y + 1)).1) ((eY (sr i) (sx i) (st i) (rn i) sh sn yw (y + 1)).2.2) ((eY (sr i) (sx i) (st i) (rn i) sh sn yw (y + 1)).2.1) nw yo ce wo po ne cs sv mk sp rs bg dp 0 nY_ ix_ bu_ np_ st_ sr_ go_ ca_ nw_ yo_ ce_ wo_ po_ ne_ sv_ cl_ mk_ bg_ dp_ ((lrn go_ sr_ po_ yo_ mk_ nw_ i y (sh_, nx_)).1) ((lrn go_ sr_ po_ yo_ mk_ nw_ i y (sh_, nx_)).2) spn_) (mc := 0) (ms := 0) (As := [.int (nI i), .int (nI a), .int (nI y)]) (rest := []) E (fun _ h => h) 57 wG_am rfl (fl (pre := (oa, aX V (lN ((eY (sr i) (sx i) (st i) (rn i) sh sn yw (y + 1)).1 a))) :: wC V ad r1 r2 r3 nY ix bu np st sr sx tk rn ((eY (sr i) (sx i) (st i) (rn i) sh sn yw (y + 1)).1) ((eY (sr i) (sx i) (st i) (rn i) sh sn yw (y + 1)).2.2) ((eY (sr i) (sx i) (st i) (rn i) sh sn yw (y + 1)).2.1) nw yo ce wo po ne cs sv mk sp rs bg dp) (C_Mo_share l i a y hi_ hnp_ hst_ ha_ hy_ hY_ hr_ hnw_ hmk_ hyo_ hpo_ hlv_ hgo_)) (cs_La_112 E rfl rfl ⟨Nat.le_of_ble_eq_true rfl, Nat.le_of_ble_eq_true rfl⟩) rfl rfl (Nat.le_of_ble_eq_true rfl) ⟨by show _ ≤ 601024; omega, by show _ ≤ 7293000; omega⟩ d_La_law_568 ?_
  refine g_lstore (lv' := [(6, .long (lN ((lrn go_ sr_ po_ yo_ mk_ nw_ i y (sh_, nx_)).1 a))), (5, .int (nI 0)), (4, .int (nI ti)), (3, .ref oa), (2, .ref (am 0)), (1, .ref (ad 0)), (0, .ref sb)]) E d_La_law_571 (by decide) rfl ?_
  refine g_aload_n E d_La_law_573 rfl 4 rfl ?_
  refine gpVi (As := []) (rest := []) E gO_w 57 wG_am rfl (fpi0 (pre := (oa, aX V (lN ((eY (sr i) (sx i) (st i) (rn i) sh sn yw (y + 1)).1 a))) :: wC V ad r1 r2 r3 nY ix bu np st sr sx tk rn ((eY (sr i) (sx i) (st i) (rn i) sh sn yw (y + 1)).1) ((eY (sr i) (sx i) (st i) (rn i) sh sn yw (y + 1)).2.2) ((eY (sr i) (sx i) (st i) (rn i) sh sn yw (y + 1)).2.1) nw yo ce wo po ne cs sv mk sp rs bg dp) (C_Mo_thrown l)) (cs_La_92 E rfl rfl ⟨Nat.le_of_ble_eq_true rfl, Nat.le_of_ble_eq_true rfl⟩) rfl rfl (Nat.le_of_ble_eq_true rfl) ⟨by show _ ≤ 601024; omega, by show _ ≤ 7293000; omega⟩ d_La_law_574 ?_
  refine g_iload E d_La_law_577 1 rfl ?_
  refine g_ncmp_eq E 584 d_La_law_579 (by decide) (by omega) (by omega) (fun h1 => ?_) (fun h1 => ?_)
  · refine g_iload E d_La_law_584 1 rfl ?_
    refine g_nif_ne E 600 d_La_law_586 (by decide) (by decide) (fun h2 => absurd h2 (by decide)) (fun _ => ?_)
    refine g_aload_n E d_La_law_589 rfl 3 rfl ?_
    refine g_iconst (v := nI 0) E d_La_law_590 (by decide) ?_
    refine g_ldX E gO_w 0 rfl d_La_law_591 ?_
    refine g_lload E d_La_law_592 0 rfl ?_
    refine g_lcmp E d_La_law_594 ?_
    refine g_if_eq E 600 d_La_law_595 (by decide) (fun h3 => ?_) (fun h3 => ?_)
    · refine g_goto E 1527 d_La_law_600 (by decide) ?_
      refine g_lv [2, 3, 4, 5, 6] rfl ?_
      exact kk
    · exact absurd (lg_eq.mpr (by rw [hE])) h3
  · exact absurd rfl h1

set_option maxHeartbeats 4000000 in
set_option maxRecDepth 100000 in
theorem K_cares {p : Program} {l : Launch} {e : Env} {s : State} {m : MethodId} {below : List Frame} {meth : Method} {c : Code} {V : gV} {sb LL ti cells slots : Nat} {xs : Nat → Int32} {oa : Nat} {am : Nat → Nat} {ou : Int64} {ad r1 r2 r3 : Nat → Nat} {nY : Nat} {ix bu : Nat → Nat} {np : Nat} {st sr : Nat → Nat} {sx tk : Nat → Nat → Nat} {rn sh sn : Nat → Nat} {yw nw : Nat} {yo ce wo : Nat → Nat} {po ne : Nat → Option Nat} {cs : Nat → Nat} {sv : Nat → Nat → Nat} {mk : Nat} {sp rs : Nat → Int} {bg dp : Nat} {th_ nY_ : Nat} {ix_ bu_ : Nat → Nat} {np_ : Nat} {st_ sr_ go_ ca_ : Nat → Nat} {nw_ : Nat} {yo_ ce_ wo_ : Nat → Nat} {po_ ne_ : Nat → Option Nat} {sv_ : Nat → Nat} {cl_ : Nat → Bool} {mk_ bg_ dp_ : Nat} {sh_ nx_ : Nat → Nat} {spn_ : Int} (E : gE p s m #[Value.ref sb] c code 8 R_La V) (hX : va_X sb LL xs s s.heap) (hbl : sb < s.heap.size) (hXJ : XJ s) (hfl : l.flags = flags0) (hL : LL ≤ 2561) (hiL : ti + 5 ≤ LL) (hcl : cells + 1 ≤ 601024) (hsl : slots + 6 ≤ 7293000) (i y : Nat) (hi : i < np) (hnp : np ≤ 12) (hs : st i ≤ 4) (hy : y < nY) (hY : nY ≤ 12) (hr : sr i < 4) (hn : rn i < 4096) (hx : ∀ i j, sx i j ≤ 16) (hsi : sr i < st i) (hM : ∀ a, a < st i → sumN (fun j => sx i (a * 4 + j)) (st i) = 16) (ht : ∀ i j, tk i j ≤ 1000) (hix : ∀ y, ix y ≤ 2000) (hi_ : i < np_) (hnp_ : np_ ≤ 12) (hy_ : y < nY_) (hY_ : nY_ ≤ 12) (hnw_ : nw_ ≤ 10) (hmk_ : mk_ < 1024) (hyo_ : ∀ w, yo_ w < 12) (hpo_ : ∀ w q, po_ w = some q → q < 12) (hlv_ : ∀ p a, lvN go_ p a ≤ 16) (hgo_ : ∀ j, go_ j ≤ 16) (hsr_ : ∀ i, sr_ i < 4) (hca_ : ∀ j, ca_ j ≤ 1000) (hix_ : ∀ y, ix_ y ≤ 2000) (hT_ : ∀ i y u, i < np_ → y < 12 → tM go_ ca_ sr_ po_ yo_ mk_ nw_ i y u < 2 ^ 62) (hD_ : ∀ i y u, i < np_ → y < 12 → tM go_ ca_ sr_ po_ yo_ mk_ nw_ i y u / 16 ^ (y - bgN po_ yo_ mk_ i y nw_) ≤ 1000) (hx1 : xs (ti + 1) = nI i) (hx2 : xs (ti + 2) = nI y) (hE : nI (cY ix st sr sx tk rn i y) = nI (cM ix_ go_ ca_ sr_ po_ yo_ mk_ nw_ i y (sh_, nx_))) (kk : gg p l e room_1 s m #[Value.ref sb] below meth c 8 (lw_Z below #[Value.ref sb] s) (cells) (slots) (gW V (fun q => s.heap.size ≤ q) s.heap (wG V oa ad r1 r2 r3 am ((nI (cY ix st sr sx tk rn i y)).toInt64) nY ix bu np st sr sx tk rn ((eY (sr i) (sx i) (st i) (rn i) sh sn yw (y + 1)).1) ((eY (sr i) (sx i) (st i) (rn i) sh sn yw (y + 1)).2.2) ((eY (sr i) (sx i) (st i) (rn i) sh sn yw (y + 1)).2.1) nw yo ce wo po ne cs sv mk sp rs bg dp 0 nY_ ix_ bu_ np_ st_ sr_ go_ ca_ nw_ yo_ ce_ wo_ po_ ne_ sv_ cl_ mk_ bg_ dp_ ((lrn go_ sr_ po_ yo_ mk_ nw_ i y (sh_, nx_)).1) ((lrn go_ sr_ po_ yo_ mk_ nw_ i y (sh_, nx_)).2) spn_)) [(4, .int (nI ti)), (3, .ref oa), (2, .ref (am 0)), (1, .ref (ad 0)), (0, .ref sb)] 1527 []) : gg p l e room_1 s m #[Value.ref sb] below meth c 8 (lw_Z below #[Value.ref sb] s) cells slots (gW V (fun q => s.heap.size ≤ q) s.heap (wG V oa ad r1 r2 r3 am ou nY ix bu np st sr sx tk rn sh sn yw nw yo ce wo po ne cs sv mk sp rs bg dp th_ nY_ ix_ bu_ np_ st_ sr_ go_ ca_ nw_ yo_ ce_ wo_ po_ ne_ sv_ cl_ mk_ bg_ dp_ sh_ nx_ spn_)) [(4, .int (nI ti)), (3, .ref oa), (2, .ref (am 0)), (1, .ref (ad 0)), (0, .ref sb)] 603 [] := by
  refine g_aload_n E d_La_law_603 rfl 3 rfl ?_
  refine g_aload_n E d_La_law_604 rfl 4 rfl ?_
  refine g_iload E d_La_law_605 0 rfl ?_
  refine g_iconst (v := nI 1) E d_La_law_607 (by decide) ?_
  refine g_iadd E d_La_law_608 ?_
  refine g_topi (nI_add _ _) ?_
  refine g_scr E hX hbl (by omega) (by omega) d_La_law_609 ?_
  refine g_topi hx1 ?_
  refine g_aload_n E d_La_law_610 rfl 4 rfl ?_
  refine g_iload E d_La_law_611 0 rfl ?_
  refine g_iconst (v := nI 2) E d_La_law_613 (by decide) ?_
  refine g_iadd E d_La_law_614 ?_
  refine g_topi (nI_add _ _) ?_
  refine g_scr E hX hbl (by omega) (by omega) d_La_law_615 ?_
  refine g_topi hx2 ?_
  refine g_aload_n E d_La_law_616 rfl 1 rfl ?_
  refine gwLi (w := wG V oa ad r1 r2 r3 am ou nY ix bu np st sr sx tk rn sh sn yw nw yo ce wo po ne cs sv mk sp rs bg dp th_ nY_ ix_ bu_ np_ st_ sr_ go_ ca_ nw_ yo_ ce_ wo_ po_ ne_ sv_ cl_ mk_ bg_ dp_ sh_ nx_ spn_) (w' := wG V oa ad r1 r2 r3 am ((nI (cY ix st sr sx tk rn i y)).toInt64) nY ix bu np st sr sx tk rn ((eY (sr i) (sx i) (st i) (rn i) sh sn yw (y + 1)).1) ((eY (sr i) (sx i) (st i) (rn i) sh sn yw (y + 1)).2.2) ((eY (sr i) (sx i) (st i) (rn i) sh sn yw (y + 1)).2.1) nw yo ce wo po ne cs sv mk sp rs bg dp th_ nY_ ix_ bu_ np_ st_ sr_ go_ ca_ nw_ yo_ ce_ wo_ po_ ne_ sv_ cl_ mk_ bg_ dp_ sh_ nx_ spn_) (As := [.ref (ad 0), .int (nI i), .int (nI y), .ref oa]) (rest := []) E (fun _ h => h) (si (fi (pre := wM V am th_ nY_ ix_ bu_ np_ st_ sr_ go_ ca_ nw_ yo_ ce_ wo_ po_ ne_ sv_ cl_ mk_ bg_ dp_ sh_ nx_ spn_) (L_CY_cares l (oa := oa) (ou := ou) i y hi hnp hs hy hY hr hn hx hsi hM ht hix))) kc_La_cares kl_La_113 ks_La_cares kn_La kd_La_cares rfl rfl ⟨Nat.le_of_ble_eq_true rfl, Nat.le_of_ble_eq_true rfl⟩ rfl rfl (Nat.le_of_ble_eq_true rfl) ⟨by show _ ≤ 601024; omega, by show _ ≤ 7293000; omega⟩ d_La_law_617 ?_
  refine g_istore (lv' := [(5, .int (nI 0)), (4, .int (nI ti)), (3, .ref oa), (2, .ref (am 0)), (1, .ref (ad 0)), (0, .ref sb)]) E d_La_law_620 (by decide) rfl ?_
  refine g_aload_n E d_La_law_622 rfl 3 rfl ?_
  refine g_aload_n E d_La_law_623 rfl 5 rfl ?_
  refine g_iload E d_La_law_624 1 rfl ?_
  refine g_iconst (v := nI 1) E d_La_law_626 (by decide) ?_
  refine g_iadd E d_La_law_627 ?_
  refine g_topi (nI_add _ _) ?_
  refine g_scr E hX hbl (by omega) (by omega) d_La_law_628 ?_
  refine g_topi hx1 ?_
  refine g_aload_n E d_La_law_629 rfl 5 rfl ?_
  refine g_iload E d_La_law_630 1 rfl ?_
  refine g_iconst (v := nI 2) E d_La_law_632 (by decide) ?_
  refine g_iadd E d_La_law_633 ?_
  refine g_topi (nI_add _ _) ?_
  refine g_scr E hX hbl (by omega) (by omega) d_La_law_634 ?_
  refine g_topi hx2 ?_
  refine gwVi (w := wG V oa ad r1 r2 r3 am ((nI (cY ix st sr sx tk rn i y)).toInt64) nY ix bu np st sr sx tk rn ((eY (sr i) (sx i) (st i) (rn i) sh sn yw (y + 1)).1) ((eY (sr i) (sx i) (st i) (rn i) sh sn yw (y + 1)).2.2) ((eY (sr i) (sx i) (st i) (rn i) sh sn yw (y + 1)).2.1) nw yo ce wo po ne cs sv mk sp rs bg dp th_ nY_ ix_ bu_ np_ st_ sr_ go_ ca_ nw_ yo_ ce_ wo_ po_ ne_ sv_ cl_ mk_ bg_ dp_ sh_ nx_ spn_) (w' := wG V oa ad r1 r2 r3 am ((nI (cY ix st sr sx tk rn i y)).toInt64) nY ix bu np st sr sx tk rn ((eY (sr i) (sx i) (st i) (rn i) sh sn yw (y + 1)).1) ((eY (sr i) (sx i) (st i) (rn i) sh sn yw (y + 1)).2.2) ((eY (sr i) (sx i) (st i) (rn i) sh sn yw (y + 1)).2.1) nw yo ce wo po ne cs sv mk sp rs bg dp 0 nY_ ix_ bu_ np_ st_ sr_ go_ ca_ nw_ yo_ ce_ wo_ po_ ne_ sv_ cl_ mk_ bg_ dp_ ((lrn go_ sr_ po_ yo_ mk_ nw_ i y (sh_, nx_)).1) ((lrn go_ sr_ po_ yo_ mk_ nw_ i y (sh_, nx_)).2) spn_) (mc := 0) (ms := 0) (As := [.int (nI i), .int (nI y)]) (rest := []) E (fun _ h => h) 57 wG_am rfl (fi (pre := (oa, aX V ((nI (cY ix st sr sx tk rn i y)).toInt64)) :: wC V ad r1 r2 r3 nY ix bu np st sr sx tk rn ((eY (sr i) (sx i) (st i) (rn i) sh sn yw (y + 1)).1) ((eY (sr i) (sx i) (st i) (rn i) sh sn yw (y + 1)).2.2) ((eY (sr i) (sx i) (st i) (rn i) sh sn yw (y + 1)).2.1) nw yo ce wo po ne cs sv mk sp rs bg dp) (C_Mo_cares l i y hi_ hnp_ hy_ hY_ hnw_ hmk_ hyo_ hpo_ hlv_ hgo_ hsr_ hca_ hix_ hT_ hD_)) (cs_La_115 E rfl rfl ⟨Nat.le_of_ble_eq_true rfl, Nat.le_of_ble_eq_true rfl⟩) rfl rfl (Nat.le_of_ble_eq_true rfl) ⟨by show _ ≤ 601024; omega, by show _ ≤ 7293000; omega⟩ d_La_law_635 ?_
  refine g_istore (lv' := [(6, .int (nI (cM ix_ go_ ca_ sr_ po_ yo_ mk_ nw_ i y (sh_, nx_)))), (5, .int (nI 0)), (4, .int (nI ti)), (3, .ref oa), (2, .ref (am 0)), (1, .ref (ad 0)), (0, .ref sb)]) E d_La_law_638 (by decide) rfl ?_
  refine g_aload_n E d_La_law_640 rfl 4 rfl ?_
  refine gpVi (As := []) (rest := []) E gO_w 57 wG_am rfl (fpi0 (pre := (oa, aX V ((nI (cY ix st sr sx tk rn i y)).toInt64)) :: wC V ad r1 r2 r3 nY ix bu np st sr sx tk rn ((eY (sr i) (sx i) (st i) (rn i) sh sn yw (y + 1)).1) ((eY (sr i) (sx i) (st i) (rn i) sh sn yw (y + 1)).2.2) ((eY (sr i) (sx i) (st i) (rn i) sh sn yw (y + 1)).2.1) nw yo ce wo po ne cs sv mk sp rs bg dp) (C_Mo_thrown l)) (cs_La_92 E rfl rfl ⟨Nat.le_of_ble_eq_true rfl, Nat.le_of_ble_eq_true rfl⟩) rfl rfl (Nat.le_of_ble_eq_true rfl) ⟨by show _ ≤ 601024; omega, by show _ ≤ 7293000; omega⟩ d_La_law_641 ?_
  refine g_iload E d_La_law_644 1 rfl ?_
  refine g_ncmp_eq E 651 d_La_law_646 (by decide) (by omega) (by omega) (fun h1 => ?_) (fun h1 => ?_)
  · refine g_iload E d_La_law_651 1 rfl ?_
    refine g_nif_ne E 668 d_La_law_653 (by decide) (by decide) (fun h2 => absurd h2 (by decide)) (fun _ => ?_)
    refine g_aload_n E d_La_law_656 rfl 3 rfl ?_
    refine g_iconst (v := nI 0) E d_La_law_657 (by decide) ?_
    refine g_ldX E gO_w 0 rfl d_La_law_658 ?_
    refine g_iload E d_La_law_659 0 rfl ?_
    refine g_i2l E d_La_law_661 ?_
    refine g_topl rfl ?_
    refine g_lcmp E d_La_law_662 ?_
    refine g_if_eq E 668 d_La_law_663 (by decide) (fun h3 => ?_) (fun h3 => ?_)
    · refine g_goto E 1527 d_La_law_668 (by decide) ?_
      refine g_lv [2, 3, 4, 5, 6] rfl ?_
      exact kk
    · exact absurd (lg_eq.mpr (by rw [hE])) h3
  · exact absurd rfl h1

set_option maxHeartbeats 4000000 in
set_option maxRecDepth 100000 in
theorem K_most {p : Program} {l : Launch} {e : Env} {s : State} {m : MethodId} {below : List Frame} {meth : Method} {c : Code} {V : gV} {sb LL ti cells slots : Nat} {xs : Nat → Int32} {oa : Nat} {am : Nat → Nat} {ou : Int64} {ad r1 r2 r3 : Nat → Nat} {nY : Nat} {ix bu : Nat → Nat} {np : Nat} {st sr : Nat → Nat} {sx tk : Nat → Nat → Nat} {rn sh sn : Nat → Nat} {yw nw : Nat} {yo ce wo : Nat → Nat} {po ne : Nat → Option Nat} {cs : Nat → Nat} {sv : Nat → Nat → Nat} {mk : Nat} {sp rs : Nat → Int} {bg dp : Nat} {th_ nY_ : Nat} {ix_ bu_ : Nat → Nat} {np_ : Nat} {st_ sr_ go_ ca_ : Nat → Nat} {nw_ : Nat} {yo_ ce_ wo_ : Nat → Nat} {po_ ne_ : Nat → Option Nat} {sv_ : Nat → Nat} {cl_ : Nat → Bool} {mk_ bg_ dp_ : Nat} {sh_ nx_ : Nat → Nat} {spn_ : Int} (E : gE p s m #[Value.ref sb] c code 8 R_La V) (hX : va_X sb LL xs s s.heap) (hbl : sb < s.heap.size) (hXJ : XJ s) (hfl : l.flags = flags0) (hL : LL ≤ 2561) (hiL : ti + 5 ≤ LL) (hcl : cells + 1 ≤ 601024) (hsl : slots + 6 ≤ 7293000) (i y : Nat) (hi : i < np) (hnp : np ≤ 12) (hs : st i ≤ 4) (hs2 : 2 ≤ st i) (hy : y < nY) (hY : nY ≤ 12) (hr : sr i < 4) (hn : rn i < 4096) (hx : ∀ i j, sx i j ≤ 16) (hb : ∀ a, a < 4 → (eY (sr i) (sx i) (st i) (rn i) sh sn yw (y + 1)).1 a < 2 ^ 62) (hi_ : i < np_) (hnp_ : np_ ≤ 12) (hs2_ : 2 ≤ st_ i) (hs_ : st_ i ≤ 4) (hy_ : y < nY_) (hY_ : nY_ ≤ 12) (hr_ : sr_ i < 4) (hnw_ : nw_ ≤ 10) (hmk_ : mk_ < 1024) (hyo_ : ∀ w, yo_ w < 12) (hpo_ : ∀ w q, po_ w = some q → q < 12) (hlv_ : ∀ p a, lvN go_ p a ≤ 16) (hgo_ : ∀ j, go_ j ≤ 16) (hb_ : ∀ a, a < 4 → (lrn go_ sr_ po_ yo_ mk_ nw_ i y (sh_, nx_)).1 a < 2 ^ 62) (hx1 : xs (ti + 1) = nI i) (hx2 : xs (ti + 2) = nI y) (hE : nI (grS (eY (sr i) (sx i) (st i) (rn i) sh sn yw (y + 1)).1 (st i - 1)) = nI (grS (lrn go_ sr_ po_ yo_ mk_ nw_ i y (sh_, nx_)).1 (st_ i - 1))) (kk : gg p l e room_1 s m #[Value.ref sb] below meth c 8 (lw_Z below #[Value.ref sb] s) (cells) (slots) (gW V (fun q => s.heap.size ≤ q) s.heap (wG V oa ad r1 r2 r3 am ((nI (grS (eY (sr i) (sx i) (st i) (rn i) sh sn yw (y + 1)).1 (st i - 1))).toInt64) nY ix bu np st sr sx tk rn ((eY (sr i) (sx i) (st i) (rn i) sh sn yw (y + 1)).1) ((eY (sr i) (sx i) (st i) (rn i) sh sn yw (y + 1)).2.2) ((eY (sr i) (sx i) (st i) (rn i) sh sn yw (y + 1)).2.1) nw yo ce wo po ne cs sv mk sp rs bg dp 0 nY_ ix_ bu_ np_ st_ sr_ go_ ca_ nw_ yo_ ce_ wo_ po_ ne_ sv_ cl_ mk_ bg_ dp_ ((lrn go_ sr_ po_ yo_ mk_ nw_ i y (sh_, nx_)).1) ((lrn go_ sr_ po_ yo_ mk_ nw_ i y (sh_, nx_)).2) spn_)) [(4, .int (nI ti)), (3, .ref oa), (2, .ref (am 0)), (1, .ref (ad 0)), (0, .ref sb)] 1527 []) : gg p l e room_1 s m #[Value.ref sb] below meth c 8 (lw_Z below #[Value.ref sb] s) cells slots (gW V (fun q => s.heap.size ≤ q) s.heap (wG V oa ad r1 r2 r3 am ou nY ix bu np st sr sx tk rn sh sn yw nw yo ce wo po ne cs sv mk sp rs bg dp th_ nY_ ix_ bu_ np_ st_ sr_ go_ ca_ nw_ yo_ ce_ wo_ po_ ne_ sv_ cl_ mk_ bg_ dp_ sh_ nx_ spn_)) [(4, .int (nI ti)), (3, .ref oa), (2, .ref (am 0)), (1, .ref (ad 0)), (0, .ref sb)] 671 [] := by
  refine g_aload_n E d_La_law_671 rfl 3 rfl ?_
  refine g_aload_n E d_La_law_672 rfl 4 rfl ?_
  refine g_iload E d_La_law_673 0 rfl ?_
  refine g_iconst (v := nI 1) E d_La_law_675 (by decide) ?_
  refine g_iadd E d_La_law_676 ?_
  refine g_topi (nI_add _ _) ?_
  refine g_scr E hX hbl (by omega) (by omega) d_La_law_677 ?_
  refine g_topi hx1 ?_
  refine g_aload_n E d_La_law_678 rfl 4 rfl ?_
  refine g_iload E d_La_law_679 0 rfl ?_
  refine g_iconst (v := nI 2) E d_La_law_681 (by decide) ?_
  refine g_iadd E d_La_law_682 ?_
  refine g_topi (nI_add _ _) ?_
  refine g_scr E hX hbl (by omega) (by omega) d_La_law_683 ?_
  refine g_topi hx2 ?_
  refine g_aload_n E d_La_law_684 rfl 1 rfl ?_
  refine gwLi (w := wG V oa ad r1 r2 r3 am ou nY ix bu np st sr sx tk rn sh sn yw nw yo ce wo po ne cs sv mk sp rs bg dp th_ nY_ ix_ bu_ np_ st_ sr_ go_ ca_ nw_ yo_ ce_ wo_ po_ ne_ sv_ cl_ mk_ bg_ dp_ sh_ nx_ spn_) (w' := wG V oa ad r1 r2 r3 am ((nI (grS (eY (sr i) (sx i) (st i) (rn i) sh sn yw (y + 1)).1 (st i - 1))).toInt64) nY ix bu np st sr sx tk rn ((eY (sr i) (sx i) (st i) (rn i) sh sn yw (y + 1)).1) ((eY (sr i) (sx i) (st i) (rn i) sh sn yw (y + 1)).2.2) ((eY (sr i) (sx i) (st i) (rn i) sh sn yw (y + 1)).2.1) nw yo ce wo po ne cs sv mk sp rs bg dp th_ nY_ ix_ bu_ np_ st_ sr_ go_ ca_ nw_ yo_ ce_ wo_ po_ ne_ sv_ cl_ mk_ bg_ dp_ sh_ nx_ spn_) (As := [.ref (ad 0), .int (nI i), .int (nI y), .ref oa]) (rest := []) E (fun _ h => h) (si (fi (pre := wM V am th_ nY_ ix_ bu_ np_ st_ sr_ go_ ca_ nw_ yo_ ce_ wo_ po_ ne_ sv_ cl_ mk_ bg_ dp_ sh_ nx_ spn_) (L_CY_most l (oa := oa) (ou := ou) i y hi hnp hs hs2 hy hY hr hn hx hb))) kc_La_most kl_La_116 ks_La_most kn_La kd_La_most rfl rfl ⟨Nat.le_of_ble_eq_true rfl, Nat.le_of_ble_eq_true rfl⟩ rfl rfl (Nat.le_of_ble_eq_true rfl) ⟨by show _ ≤ 601024; omega, by show _ ≤ 7293000; omega⟩ d_La_law_685 ?_
  refine g_istore (lv' := [(5, .int (nI 0)), (4, .int (nI ti)), (3, .ref oa), (2, .ref (am 0)), (1, .ref (ad 0)), (0, .ref sb)]) E d_La_law_688 (by decide) rfl ?_
  refine g_aload_n E d_La_law_690 rfl 3 rfl ?_
  refine g_aload_n E d_La_law_691 rfl 5 rfl ?_
  refine g_iload E d_La_law_692 1 rfl ?_
  refine g_iconst (v := nI 1) E d_La_law_694 (by decide) ?_
  refine g_iadd E d_La_law_695 ?_
  refine g_topi (nI_add _ _) ?_
  refine g_scr E hX hbl (by omega) (by omega) d_La_law_696 ?_
  refine g_topi hx1 ?_
  refine g_aload_n E d_La_law_697 rfl 5 rfl ?_
  refine g_iload E d_La_law_698 1 rfl ?_
  refine g_iconst (v := nI 2) E d_La_law_700 (by decide) ?_
  refine g_iadd E d_La_law_701 ?_
  refine g_topi (nI_add _ _) ?_
  refine g_scr E hX hbl (by omega) (by omega) d_La_law_702 ?_
  refine g_topi hx2 ?_
  refine gwVi (w := wG V oa ad r1 r2 r3 am ((nI (grS (eY (sr i) (sx i) (st i) (rn i) sh sn yw (y + 1)).1 (st i - 1))).toInt64) nY ix bu np st sr sx tk rn ((eY (sr i) (sx i) (st i) (rn i) sh sn yw (y + 1)).1) ((eY (sr i) (sx i) (st i) (rn i) sh sn yw (y + 1)).2.2) ((eY (sr i) (sx i) (st i) (rn i) sh sn yw (y + 1)).2.1) nw yo ce wo po ne cs sv mk sp rs bg dp th_ nY_ ix_ bu_ np_ st_ sr_ go_ ca_ nw_ yo_ ce_ wo_ po_ ne_ sv_ cl_ mk_ bg_ dp_ sh_ nx_ spn_) (w' := wG V oa ad r1 r2 r3 am ((nI (grS (eY (sr i) (sx i) (st i) (rn i) sh sn yw (y + 1)).1 (st i - 1))).toInt64) nY ix bu np st sr sx tk rn ((eY (sr i) (sx i) (st i) (rn i) sh sn yw (y + 1)).1) ((eY (sr i) (sx i) (st i) (rn i) sh sn yw (y + 1)).2.2) ((eY (sr i) (sx i) (st i) (rn i) sh sn yw (y + 1)).2.1) nw yo ce wo po ne cs sv mk sp rs bg dp 0 nY_ ix_ bu_ np_ st_ sr_ go_ ca_ nw_ yo_ ce_ wo_ po_ ne_ sv_ cl_ mk_ bg_ dp_ ((lrn go_ sr_ po_ yo_ mk_ nw_ i y (sh_, nx_)).1) ((lrn go_ sr_ po_ yo_ mk_ nw_ i y (sh_, nx_)).2) spn_) (mc := 0) (ms := 0) (As := [.int (nI i), .int (nI y)]) (rest := []) E (fun _ h => h) 57 wG_am rfl (fi (pre := (oa, aX V ((nI (grS (eY (sr i) (sx i) (st i) (rn i) sh sn yw (y + 1)).1 (st i - 1))).toInt64)) :: wC V ad r1 r2 r3 nY ix bu np st sr sx tk rn ((eY (sr i) (sx i) (st i) (rn i) sh sn yw (y + 1)).1) ((eY (sr i) (sx i) (st i) (rn i) sh sn yw (y + 1)).2.2) ((eY (sr i) (sx i) (st i) (rn i) sh sn yw (y + 1)).2.1) nw yo ce wo po ne cs sv mk sp rs bg dp) (C_Mo_most l i y hi_ hnp_ hs2_ hs_ hy_ hY_ hr_ hnw_ hmk_ hyo_ hpo_ hlv_ hgo_ hb_)) (cs_La_118 E rfl rfl ⟨Nat.le_of_ble_eq_true rfl, Nat.le_of_ble_eq_true rfl⟩) rfl rfl (Nat.le_of_ble_eq_true rfl) ⟨by show _ ≤ 601024; omega, by show _ ≤ 7293000; omega⟩ d_La_law_703 ?_
  refine g_istore (lv' := [(6, .int (nI (grS (lrn go_ sr_ po_ yo_ mk_ nw_ i y (sh_, nx_)).1 (st_ i - 1)))), (5, .int (nI 0)), (4, .int (nI ti)), (3, .ref oa), (2, .ref (am 0)), (1, .ref (ad 0)), (0, .ref sb)]) E d_La_law_706 (by decide) rfl ?_
  refine g_aload_n E d_La_law_708 rfl 4 rfl ?_
  refine gpVi (As := []) (rest := []) E gO_w 57 wG_am rfl (fpi0 (pre := (oa, aX V ((nI (grS (eY (sr i) (sx i) (st i) (rn i) sh sn yw (y + 1)).1 (st i - 1))).toInt64)) :: wC V ad r1 r2 r3 nY ix bu np st sr sx tk rn ((eY (sr i) (sx i) (st i) (rn i) sh sn yw (y + 1)).1) ((eY (sr i) (sx i) (st i) (rn i) sh sn yw (y + 1)).2.2) ((eY (sr i) (sx i) (st i) (rn i) sh sn yw (y + 1)).2.1) nw yo ce wo po ne cs sv mk sp rs bg dp) (C_Mo_thrown l)) (cs_La_92 E rfl rfl ⟨Nat.le_of_ble_eq_true rfl, Nat.le_of_ble_eq_true rfl⟩) rfl rfl (Nat.le_of_ble_eq_true rfl) ⟨by show _ ≤ 601024; omega, by show _ ≤ 7293000; omega⟩ d_La_law_709 ?_
  refine g_iload E d_La_law_712 1 rfl ?_
  refine g_ncmp_eq E 719 d_La_law_714 (by decide) (by omega) (by omega) (fun h1 => ?_) (fun h1 => ?_)
  · refine g_iload E d_La_law_719 1 rfl ?_
    refine g_nif_ne E 736 d_La_law_721 (by decide) (by decide) (fun h2 => absurd h2 (by decide)) (fun _ => ?_)
    refine g_aload_n E d_La_law_724 rfl 3 rfl ?_
    refine g_iconst (v := nI 0) E d_La_law_725 (by decide) ?_
    refine g_ldX E gO_w 0 rfl d_La_law_726 ?_
    refine g_iload E d_La_law_727 0 rfl ?_
    refine g_i2l E d_La_law_729 ?_
    refine g_topl rfl ?_
    refine g_lcmp E d_La_law_730 ?_
    refine g_if_eq E 736 d_La_law_731 (by decide) (fun h3 => ?_) (fun h3 => ?_)
    · refine g_goto E 1527 d_La_law_736 (by decide) ?_
      refine g_lv [2, 3, 4, 5, 6] rfl ?_
      exact kk
    · exact absurd (lg_eq.mpr (by rw [hE])) h3
  · exact absurd rfl h1

set_option maxHeartbeats 4000000 in
set_option maxRecDepth 100000 in
theorem K_work_n {p : Program} {l : Launch} {e : Env} {s : State} {m : MethodId} {below : List Frame} {meth : Method} {c : Code} {V : gV} {sb LL ti cells slots : Nat} {xs : Nat → Int32} {oa : Nat} {am : Nat → Nat} {ou : Int64} {ad r1 r2 r3 : Nat → Nat} {nY : Nat} {ix bu : Nat → Nat} {np : Nat} {st sr : Nat → Nat} {sx tk : Nat → Nat → Nat} {rn sh sn : Nat → Nat} {yw nw : Nat} {yo ce wo : Nat → Nat} {po ne : Nat → Option Nat} {cs : Nat → Nat} {sv : Nat → Nat → Nat} {mk : Nat} {sp rs : Nat → Int} {bg dp : Nat} {th_ nY_ : Nat} {ix_ bu_ : Nat → Nat} {np_ : Nat} {st_ sr_ go_ ca_ : Nat → Nat} {nw_ : Nat} {yo_ ce_ wo_ : Nat → Nat} {po_ ne_ : Nat → Option Nat} {sv_ : Nat → Nat} {cl_ : Nat → Bool} {mk_ bg_ dp_ : Nat} {sh_ nx_ : Nat → Nat} {spn_ : Int} (E : gE p s m #[Value.ref sb] c code 8 R_La V) (hX : va_X sb LL xs s s.heap) (hbl : sb < s.heap.size) (hXJ : XJ s) (hfl : l.flags = flags0) (hL : LL ≤ 2561) (hiL : ti + 5 ≤ LL) (hcl : cells + 1 ≤ 601024) (hsl : slots + 6 ≤ 7293000) (y k v : Nat)  (hy : y < nY) (hY : nY ≤ 12) (h1 : 1 ≤ k) (h2 : k ≤ 1000000) (h3 : v ≤ 1000000) (hnw : nw < 10) (hy_ : y < nY_) (hY_ : nY_ ≤ 12) (h1_ : 1 ≤ k) (h2_ : k ≤ 1000000) (h3_ : v ≤ 1000000) (hnw_ : nw_ < 10) (hx1 : xs (ti + 1) = nI y) (hx2 : xs (ti + 2) = nI k) (hx3 : xs (ti + 3) = nI v) (hx4 : xs (ti + 4) = oN none) (hE : nI nw = nI nw_) (kk : gg p l e room_1 s m #[Value.ref sb] below meth c 8 (lw_Z below #[Value.ref sb] s) (cells) (slots) (gW V (fun q => s.heap.size ≤ q) s.heap (wG V oa ad r1 r2 r3 am ((nI nw).toInt64) nY ix bu np st sr sx tk rn sh sn yw (nw + 1) (va_up yo nw y) (va_up ce nw k) (va_up wo nw v) (va_up po nw none) (va_up ne nw none) cs sv mk sp rs bg dp 0 nY_ ix_ bu_ np_ st_ sr_ go_ ca_ (nw_ + 1) (va_up yo_ nw_ y) (va_up ce_ nw_ k) (va_up wo_ nw_ v) (va_up po_ nw_ none) (va_up ne_ nw_ none) sv_ cl_ mk_ bg_ dp_ sh_ nx_ spn_)) [(4, .int (nI ti)), (3, .ref oa), (2, .ref (am 0)), (1, .ref (ad 0)), (0, .ref sb)] 1527 []) : gg p l e room_1 s m #[Value.ref sb] below meth c 8 (lw_Z below #[Value.ref sb] s) cells slots (gW V (fun q => s.heap.size ≤ q) s.heap (wG V oa ad r1 r2 r3 am ou nY ix bu np st sr sx tk rn sh sn yw nw yo ce wo po ne cs sv mk sp rs bg dp th_ nY_ ix_ bu_ np_ st_ sr_ go_ ca_ nw_ yo_ ce_ wo_ po_ ne_ sv_ cl_ mk_ bg_ dp_ sh_ nx_ spn_)) [(4, .int (nI ti)), (3, .ref oa), (2, .ref (am 0)), (1, .ref (ad 0)), (0, .ref sb)] 739 [] := by
  refine g_aload_n E d_La_law_739 rfl 3 rfl ?_
  refine g_aload_n E d_La_law_740 rfl 4 rfl ?_
  refine g_iload E d_La_law_741 0 rfl ?_
  refine g_iconst (v := nI 1) E d_La_law_743 (by decide) ?_
  refine g_iadd E d_La_law_744 ?_
  refine g_topi (nI_add _ _) ?_
  refine g_scr E hX hbl (by omega) (by omega) d_La_law_745 ?_
  refine g_topi hx1 ?_
  refine g_aload_n E d_La_law_746 rfl 4 rfl ?_
  refine g_iload E d_La_law_747 0 rfl ?_
  refine g_iconst (v := nI 2) E d_La_law_749 (by decide) ?_
  refine g_iadd E d_La_law_750 ?_
  refine g_topi (nI_add _ _) ?_
  refine g_scr E hX hbl (by omega) (by omega) d_La_law_751 ?_
  refine g_topi hx2 ?_
  refine g_aload_n E d_La_law_752 rfl 4 rfl ?_
  refine g_iload E d_La_law_753 0 rfl ?_
  refine g_iconst (v := nI 3) E d_La_law_755 (by decide) ?_
  refine g_iadd E d_La_law_756 ?_
  refine g_topi (nI_add _ _) ?_
  refine g_scr E hX hbl (by omega) (by omega) d_La_law_757 ?_
  refine g_topi hx3 ?_
  refine g_aload_n E d_La_law_758 rfl 4 rfl ?_
  refine g_iload E d_La_law_759 0 rfl ?_
  refine g_iconst (v := nI 4) E d_La_law_761 (by decide) ?_
  refine g_iadd E d_La_law_762 ?_
  refine g_topi (nI_add _ _) ?_
  refine g_scr E hX hbl (by omega) (by omega) d_La_law_763 ?_
  refine g_topi hx4 ?_
  refine g_aload_n E d_La_law_764 rfl 1 rfl ?_
  refine gwLi (w := wG V oa ad r1 r2 r3 am ou nY ix bu np st sr sx tk rn sh sn yw nw yo ce wo po ne cs sv mk sp rs bg dp th_ nY_ ix_ bu_ np_ st_ sr_ go_ ca_ nw_ yo_ ce_ wo_ po_ ne_ sv_ cl_ mk_ bg_ dp_ sh_ nx_ spn_) (w' := wG V oa ad r1 r2 r3 am ((nI nw).toInt64) nY ix bu np st sr sx tk rn sh sn yw (nw + 1) (va_up yo nw y) (va_up ce nw k) (va_up wo nw v) (va_up po nw none) (va_up ne nw none) cs sv mk sp rs bg dp th_ nY_ ix_ bu_ np_ st_ sr_ go_ ca_ nw_ yo_ ce_ wo_ po_ ne_ sv_ cl_ mk_ bg_ dp_ sh_ nx_ spn_) (As := [.ref (ad 0), .int (nI y), .int (nI k), .int (nI v), .int (oN none), .ref oa]) (rest := []) E (fun _ h => h) (si (fi (pre := wM V am th_ nY_ ix_ bu_ np_ st_ sr_ go_ ca_ nw_ yo_ ce_ wo_ po_ ne_ sv_ cl_ mk_ bg_ dp_ sh_ nx_ spn_) (L_CY_work_n l (oa := oa) (ou := ou) y k v hy hY h1 h2 h3 hnw))) kc_La_work kl_La_119 ks_La_work kn_La kd_La_work rfl rfl ⟨Nat.le_of_ble_eq_true rfl, Nat.le_of_ble_eq_true rfl⟩ rfl rfl (Nat.le_of_ble_eq_true rfl) ⟨by show _ ≤ 601024; omega, by show _ ≤ 7293000; omega⟩ d_La_law_765 ?_
  refine g_istore (lv' := [(5, .int (nI 0)), (4, .int (nI ti)), (3, .ref oa), (2, .ref (am 0)), (1, .ref (ad 0)), (0, .ref sb)]) E d_La_law_768 (by decide) rfl ?_
  refine g_aload_n E d_La_law_770 rfl 3 rfl ?_
  refine g_aload_n E d_La_law_771 rfl 5 rfl ?_
  refine g_iload E d_La_law_772 1 rfl ?_
  refine g_iconst (v := nI 1) E d_La_law_774 (by decide) ?_
  refine g_iadd E d_La_law_775 ?_
  refine g_topi (nI_add _ _) ?_
  refine g_scr E hX hbl (by omega) (by omega) d_La_law_776 ?_
  refine g_topi hx1 ?_
  refine g_aload_n E d_La_law_777 rfl 5 rfl ?_
  refine g_iload E d_La_law_778 1 rfl ?_
  refine g_iconst (v := nI 2) E d_La_law_780 (by decide) ?_
  refine g_iadd E d_La_law_781 ?_
  refine g_topi (nI_add _ _) ?_
  refine g_scr E hX hbl (by omega) (by omega) d_La_law_782 ?_
  refine g_topi hx2 ?_
  refine g_aload_n E d_La_law_783 rfl 5 rfl ?_
  refine g_iload E d_La_law_784 1 rfl ?_
  refine g_iconst (v := nI 3) E d_La_law_786 (by decide) ?_
  refine g_iadd E d_La_law_787 ?_
  refine g_topi (nI_add _ _) ?_
  refine g_scr E hX hbl (by omega) (by omega) d_La_law_788 ?_
  refine g_topi hx3 ?_
  refine g_aload_n E d_La_law_789 rfl 5 rfl ?_
  refine g_iload E d_La_law_790 1 rfl ?_
  refine g_iconst (v := nI 4) E d_La_law_792 (by decide) ?_
  refine g_iadd E d_La_law_793 ?_
  refine g_topi (nI_add _ _) ?_
  refine g_scr E hX hbl (by omega) (by omega) d_La_law_794 ?_
  refine g_topi hx4 ?_
  refine gwVi (w := wG V oa ad r1 r2 r3 am ((nI nw).toInt64) nY ix bu np st sr sx tk rn sh sn yw (nw + 1) (va_up yo nw y) (va_up ce nw k) (va_up wo nw v) (va_up po nw none) (va_up ne nw none) cs sv mk sp rs bg dp th_ nY_ ix_ bu_ np_ st_ sr_ go_ ca_ nw_ yo_ ce_ wo_ po_ ne_ sv_ cl_ mk_ bg_ dp_ sh_ nx_ spn_) (w' := wG V oa ad r1 r2 r3 am ((nI nw).toInt64) nY ix bu np st sr sx tk rn sh sn yw (nw + 1) (va_up yo nw y) (va_up ce nw k) (va_up wo nw v) (va_up po nw none) (va_up ne nw none) cs sv mk sp rs bg dp 0 nY_ ix_ bu_ np_ st_ sr_ go_ ca_ (nw_ + 1) (va_up yo_ nw_ y) (va_up ce_ nw_ k) (va_up wo_ nw_ v) (va_up po_ nw_ none) (va_up ne_ nw_ none) sv_ cl_ mk_ bg_ dp_ sh_ nx_ spn_) (mc := 0) (ms := 0) (As := [.int (nI y), .int (nI k), .int (nI v), .int (oN none)]) (rest := []) E (fun _ h => h) 57 wG_am rfl (fi (pre := (oa, aX V ((nI nw).toInt64)) :: wC V ad r1 r2 r3 nY ix bu np st sr sx tk rn sh sn yw (nw + 1) (va_up yo nw y) (va_up ce nw k) (va_up wo nw v) (va_up po nw none) (va_up ne nw none) cs sv mk sp rs bg dp) (C_Mo_work_n l y k v hy_ hY_ h1_ h2_ h3_ hnw_)) (cs_La_121 E rfl rfl ⟨Nat.le_of_ble_eq_true rfl, Nat.le_of_ble_eq_true rfl⟩) rfl rfl (Nat.le_of_ble_eq_true rfl) ⟨by show _ ≤ 601024; omega, by show _ ≤ 7293000; omega⟩ d_La_law_795 ?_
  refine g_istore (lv' := [(6, .int (nI nw_)), (5, .int (nI 0)), (4, .int (nI ti)), (3, .ref oa), (2, .ref (am 0)), (1, .ref (ad 0)), (0, .ref sb)]) E d_La_law_798 (by decide) rfl ?_
  refine g_aload_n E d_La_law_800 rfl 4 rfl ?_
  refine gpVi (As := []) (rest := []) E gO_w 57 wG_am rfl (fpi0 (pre := (oa, aX V ((nI nw).toInt64)) :: wC V ad r1 r2 r3 nY ix bu np st sr sx tk rn sh sn yw (nw + 1) (va_up yo nw y) (va_up ce nw k) (va_up wo nw v) (va_up po nw none) (va_up ne nw none) cs sv mk sp rs bg dp) (C_Mo_thrown l)) (cs_La_92 E rfl rfl ⟨Nat.le_of_ble_eq_true rfl, Nat.le_of_ble_eq_true rfl⟩) rfl rfl (Nat.le_of_ble_eq_true rfl) ⟨by show _ ≤ 601024; omega, by show _ ≤ 7293000; omega⟩ d_La_law_801 ?_
  refine g_iload E d_La_law_804 1 rfl ?_
  refine g_ncmp_eq E 811 d_La_law_806 (by decide) (by omega) (by omega) (fun h1 => ?_) (fun h1 => ?_)
  · refine g_iload E d_La_law_811 1 rfl ?_
    refine g_nif_ne E 828 d_La_law_813 (by decide) (by decide) (fun h2 => absurd h2 (by decide)) (fun _ => ?_)
    refine g_aload_n E d_La_law_816 rfl 3 rfl ?_
    refine g_iconst (v := nI 0) E d_La_law_817 (by decide) ?_
    refine g_ldX E gO_w 0 rfl d_La_law_818 ?_
    refine g_iload E d_La_law_819 0 rfl ?_
    refine g_i2l E d_La_law_821 ?_
    refine g_topl rfl ?_
    refine g_lcmp E d_La_law_822 ?_
    refine g_if_eq E 828 d_La_law_823 (by decide) (fun h3 => ?_) (fun h3 => ?_)
    · refine g_goto E 1527 d_La_law_828 (by decide) ?_
      refine g_lv [2, 3, 4, 5, 6] rfl ?_
      exact kk
    · exact absurd (lg_eq.mpr (by rw [hE])) h3
  · exact absurd rfl h1

set_option maxHeartbeats 4000000 in
set_option maxRecDepth 100000 in
theorem K_work_s {p : Program} {l : Launch} {e : Env} {s : State} {m : MethodId} {below : List Frame} {meth : Method} {c : Code} {V : gV} {sb LL ti cells slots : Nat} {xs : Nat → Int32} {oa : Nat} {am : Nat → Nat} {ou : Int64} {ad r1 r2 r3 : Nat → Nat} {nY : Nat} {ix bu : Nat → Nat} {np : Nat} {st sr : Nat → Nat} {sx tk : Nat → Nat → Nat} {rn sh sn : Nat → Nat} {yw nw : Nat} {yo ce wo : Nat → Nat} {po ne : Nat → Option Nat} {cs : Nat → Nat} {sv : Nat → Nat → Nat} {mk : Nat} {sp rs : Nat → Int} {bg dp : Nat} {th_ nY_ : Nat} {ix_ bu_ : Nat → Nat} {np_ : Nat} {st_ sr_ go_ ca_ : Nat → Nat} {nw_ : Nat} {yo_ ce_ wo_ : Nat → Nat} {po_ ne_ : Nat → Option Nat} {sv_ : Nat → Nat} {cl_ : Nat → Bool} {mk_ bg_ dp_ : Nat} {sh_ nx_ : Nat → Nat} {spn_ : Int} (E : gE p s m #[Value.ref sb] c code 8 R_La V) (hX : va_X sb LL xs s s.heap) (hbl : sb < s.heap.size) (hXJ : XJ s) (hfl : l.flags = flags0) (hL : LL ≤ 2561) (hiL : ti + 5 ≤ LL) (hcl : cells + 1 ≤ 601024) (hsl : slots + 6 ≤ 7293000) (y k v : Nat) (q : Nat) (hq : q < np) (hnp : np ≤ 12) (hy : y < nY) (hY : nY ≤ 12) (h1 : 1 ≤ k) (h2 : k ≤ 1000000) (h3 : v ≤ 1000000) (hnw : nw < 10) (hq_ : q < np_) (hnp_ : np_ ≤ 12) (hy_ : y < nY_) (hY_ : nY_ ≤ 12) (h1_ : 1 ≤ k) (h2_ : k ≤ 1000000) (h3_ : v ≤ 1000000) (hnw_ : nw_ < 10) (hx1 : xs (ti + 1) = nI y) (hx2 : xs (ti + 2) = nI k) (hx3 : xs (ti + 3) = nI v) (hx4 : xs (ti + 4) = nI q) (hE : nI nw = nI nw_) (kk : gg p l e room_1 s m #[Value.ref sb] below meth c 8 (lw_Z below #[Value.ref sb] s) (cells) (slots) (gW V (fun q => s.heap.size ≤ q) s.heap (wG V oa ad r1 r2 r3 am ((nI nw).toInt64) nY ix bu np st sr sx tk rn sh sn yw (nw + 1) (va_up yo nw y) (va_up ce nw k) (va_up wo nw v) (va_up po nw (some q)) (va_up ne nw none) cs sv mk sp rs bg dp 0 nY_ ix_ bu_ np_ st_ sr_ go_ ca_ (nw_ + 1) (va_up yo_ nw_ y) (va_up ce_ nw_ k) (va_up wo_ nw_ v) (va_up po_ nw_ (some q)) (va_up ne_ nw_ none) sv_ cl_ mk_ bg_ dp_ sh_ nx_ spn_)) [(4, .int (nI ti)), (3, .ref oa), (2, .ref (am 0)), (1, .ref (ad 0)), (0, .ref sb)] 1527 []) : gg p l e room_1 s m #[Value.ref sb] below meth c 8 (lw_Z below #[Value.ref sb] s) cells slots (gW V (fun q => s.heap.size ≤ q) s.heap (wG V oa ad r1 r2 r3 am ou nY ix bu np st sr sx tk rn sh sn yw nw yo ce wo po ne cs sv mk sp rs bg dp th_ nY_ ix_ bu_ np_ st_ sr_ go_ ca_ nw_ yo_ ce_ wo_ po_ ne_ sv_ cl_ mk_ bg_ dp_ sh_ nx_ spn_)) [(4, .int (nI ti)), (3, .ref oa), (2, .ref (am 0)), (1, .ref (ad 0)), (0, .ref sb)] 739 [] := by
  refine g_aload_n E d_La_law_739 rfl 3 rfl ?_
  refine g_aload_n E d_La_law_740 rfl 4 rfl ?_
  refine g_iload E d_La_law_741 0 rfl ?_
  refine g_iconst (v := nI 1) E d_La_law_743 (by decide) ?_
  refine g_iadd E d_La_law_744 ?_
  refine g_topi (nI_add _ _) ?_
  refine g_scr E hX hbl (by omega) (by omega) d_La_law_745 ?_
  refine g_topi hx1 ?_
  refine g_aload_n E d_La_law_746 rfl 4 rfl ?_
  refine g_iload E d_La_law_747 0 rfl ?_
  refine g_iconst (v := nI 2) E d_La_law_749 (by decide) ?_
  refine g_iadd E d_La_law_750 ?_
  refine g_topi (nI_add _ _) ?_
  refine g_scr E hX hbl (by omega) (by omega) d_La_law_751 ?_
  refine g_topi hx2 ?_
  refine g_aload_n E d_La_law_752 rfl 4 rfl ?_
  refine g_iload E d_La_law_753 0 rfl ?_
  refine g_iconst (v := nI 3) E d_La_law_755 (by decide) ?_
  refine g_iadd E d_La_law_756 ?_
  refine g_topi (nI_add _ _) ?_
  refine g_scr E hX hbl (by omega) (by omega) d_La_law_757 ?_
  refine g_topi hx3 ?_
  refine g_aload_n E d_La_law_758 rfl 4 rfl ?_
  refine g_iload E d_La_law_759 0 rfl ?_
  refine g_iconst (v := nI 4) E d_La_law_761 (by decide) ?_
  refine g_iadd E d_La_law_762 ?_
  refine g_topi (nI_add _ _) ?_
  refine g_scr E hX hbl (by omega) (by omega) d_La_law_763 ?_
  refine g_topi hx4 ?_
  refine g_aload_n E d_La_law_764 rfl 1 rfl ?_
  refine gwLi (w := wG V oa ad r1 r2 r3 am ou nY ix bu np st sr sx tk rn sh sn yw nw yo ce wo po ne cs sv mk sp rs bg dp th_ nY_ ix_ bu_ np_ st_ sr_ go_ ca_ nw_ yo_ ce_ wo_ po_ ne_ sv_ cl_ mk_ bg_ dp_ sh_ nx_ spn_) (w' := wG V oa ad r1 r2 r3 am ((nI nw).toInt64) nY ix bu np st sr sx tk rn sh sn yw (nw + 1) (va_up yo nw y) (va_up ce nw k) (va_up wo nw v) (va_up po nw (some q)) (va_up ne nw none) cs sv mk sp rs bg dp th_ nY_ ix_ bu_ np_ st_ sr_ go_ ca_ nw_ yo_ ce_ wo_ po_ ne_ sv_ cl_ mk_ bg_ dp_ sh_ nx_ spn_) (As := [.ref (ad 0), .int (nI y), .int (nI k), .int (nI v), .int (nI q), .ref oa]) (rest := []) E (fun _ h => h) (si (fi (pre := wM V am th_ nY_ ix_ bu_ np_ st_ sr_ go_ ca_ nw_ yo_ ce_ wo_ po_ ne_ sv_ cl_ mk_ bg_ dp_ sh_ nx_ spn_) (L_CY_work_s l (oa := oa) (ou := ou) y k v q hq hnp hy hY h1 h2 h3 hnw))) kc_La_work kl_La_119 ks_La_work kn_La kd_La_work rfl rfl ⟨Nat.le_of_ble_eq_true rfl, Nat.le_of_ble_eq_true rfl⟩ rfl rfl (Nat.le_of_ble_eq_true rfl) ⟨by show _ ≤ 601024; omega, by show _ ≤ 7293000; omega⟩ d_La_law_765 ?_
  refine g_istore (lv' := [(5, .int (nI 0)), (4, .int (nI ti)), (3, .ref oa), (2, .ref (am 0)), (1, .ref (ad 0)), (0, .ref sb)]) E d_La_law_768 (by decide) rfl ?_
  refine g_aload_n E d_La_law_770 rfl 3 rfl ?_
  refine g_aload_n E d_La_law_771 rfl 5 rfl ?_
  refine g_iload E d_La_law_772 1 rfl ?_
  refine g_iconst (v := nI 1) E d_La_law_774 (by decide) ?_
  refine g_iadd E d_La_law_775 ?_
  refine g_topi (nI_add _ _) ?_
  refine g_scr E hX hbl (by omega) (by omega) d_La_law_776 ?_
  refine g_topi hx1 ?_
  refine g_aload_n E d_La_law_777 rfl 5 rfl ?_
  refine g_iload E d_La_law_778 1 rfl ?_
  refine g_iconst (v := nI 2) E d_La_law_780 (by decide) ?_
  refine g_iadd E d_La_law_781 ?_
  refine g_topi (nI_add _ _) ?_
  refine g_scr E hX hbl (by omega) (by omega) d_La_law_782 ?_
  refine g_topi hx2 ?_
  refine g_aload_n E d_La_law_783 rfl 5 rfl ?_
  refine g_iload E d_La_law_784 1 rfl ?_
  refine g_iconst (v := nI 3) E d_La_law_786 (by decide) ?_
  refine g_iadd E d_La_law_787 ?_
  refine g_topi (nI_add _ _) ?_
  refine g_scr E hX hbl (by omega) (by omega) d_La_law_788 ?_
  refine g_topi hx3 ?_
  refine g_aload_n E d_La_law_789 rfl 5 rfl ?_
  refine g_iload E d_La_law_790 1 rfl ?_
  refine g_iconst (v := nI 4) E d_La_law_792 (by decide) ?_
  refine g_iadd E d_La_law_793 ?_
  refine g_topi (nI_add _ _) ?_
  refine g_scr E hX hbl (by omega) (by omega) d_La_law_794 ?_
  refine g_topi hx4 ?_
  refine gwVi (w := wG V oa ad r1 r2 r3 am ((nI nw).toInt64) nY ix bu np st sr sx tk rn sh sn yw (nw + 1) (va_up yo nw y) (va_up ce nw k) (va_up wo nw v) (va_up po nw (some q)) (va_up ne nw none) cs sv mk sp rs bg dp th_ nY_ ix_ bu_ np_ st_ sr_ go_ ca_ nw_ yo_ ce_ wo_ po_ ne_ sv_ cl_ mk_ bg_ dp_ sh_ nx_ spn_) (w' := wG V oa ad r1 r2 r3 am ((nI nw).toInt64) nY ix bu np st sr sx tk rn sh sn yw (nw + 1) (va_up yo nw y) (va_up ce nw k) (va_up wo nw v) (va_up po nw (some q)) (va_up ne nw none) cs sv mk sp rs bg dp 0 nY_ ix_ bu_ np_ st_ sr_ go_ ca_ (nw_ + 1) (va_up yo_ nw_ y) (va_up ce_ nw_ k) (va_up wo_ nw_ v) (va_up po_ nw_ (some q)) (va_up ne_ nw_ none) sv_ cl_ mk_ bg_ dp_ sh_ nx_ spn_) (mc := 0) (ms := 0) (As := [.int (nI y), .int (nI k), .int (nI v), .int (nI q)]) (rest := []) E (fun _ h => h) 57 wG_am rfl (fi (pre := (oa, aX V ((nI nw).toInt64)) :: wC V ad r1 r2 r3 nY ix bu np st sr sx tk rn sh sn yw (nw + 1) (va_up yo nw y) (va_up ce nw k) (va_up wo nw v) (va_up po nw (some q)) (va_up ne nw none) cs sv mk sp rs bg dp) (C_Mo_work_s l y k v q hq_ hnp_ hy_ hY_ h1_ h2_ h3_ hnw_)) (cs_La_121 E rfl rfl ⟨Nat.le_of_ble_eq_true rfl, Nat.le_of_ble_eq_true rfl⟩) rfl rfl (Nat.le_of_ble_eq_true rfl) ⟨by show _ ≤ 601024; omega, by show _ ≤ 7293000; omega⟩ d_La_law_795 ?_
  refine g_istore (lv' := [(6, .int (nI nw_)), (5, .int (nI 0)), (4, .int (nI ti)), (3, .ref oa), (2, .ref (am 0)), (1, .ref (ad 0)), (0, .ref sb)]) E d_La_law_798 (by decide) rfl ?_
  refine g_aload_n E d_La_law_800 rfl 4 rfl ?_
  refine gpVi (As := []) (rest := []) E gO_w 57 wG_am rfl (fpi0 (pre := (oa, aX V ((nI nw).toInt64)) :: wC V ad r1 r2 r3 nY ix bu np st sr sx tk rn sh sn yw (nw + 1) (va_up yo nw y) (va_up ce nw k) (va_up wo nw v) (va_up po nw (some q)) (va_up ne nw none) cs sv mk sp rs bg dp) (C_Mo_thrown l)) (cs_La_92 E rfl rfl ⟨Nat.le_of_ble_eq_true rfl, Nat.le_of_ble_eq_true rfl⟩) rfl rfl (Nat.le_of_ble_eq_true rfl) ⟨by show _ ≤ 601024; omega, by show _ ≤ 7293000; omega⟩ d_La_law_801 ?_
  refine g_iload E d_La_law_804 1 rfl ?_
  refine g_ncmp_eq E 811 d_La_law_806 (by decide) (by omega) (by omega) (fun h1 => ?_) (fun h1 => ?_)
  · refine g_iload E d_La_law_811 1 rfl ?_
    refine g_nif_ne E 828 d_La_law_813 (by decide) (by decide) (fun h2 => absurd h2 (by decide)) (fun _ => ?_)
    refine g_aload_n E d_La_law_816 rfl 3 rfl ?_
    refine g_iconst (v := nI 0) E d_La_law_817 (by decide) ?_
    refine g_ldX E gO_w 0 rfl d_La_law_818 ?_
    refine g_iload E d_La_law_819 0 rfl ?_
    refine g_i2l E d_La_law_821 ?_
    refine g_topl rfl ?_
    refine g_lcmp E d_La_law_822 ?_
    refine g_if_eq E 828 d_La_law_823 (by decide) (fun h3 => ?_) (fun h3 => ?_)
    · refine g_goto E 1527 d_La_law_828 (by decide) ?_
      refine g_lv [2, 3, 4, 5, 6] rfl ?_
      exact kk
    · exact absurd (lg_eq.mpr (by rw [hE])) h3
  · exact absurd rfl h1

set_option maxHeartbeats 4000000 in
set_option maxRecDepth 100000 in
theorem K_join {p : Program} {l : Launch} {e : Env} {s : State} {m : MethodId} {below : List Frame} {meth : Method} {c : Code} {V : gV} {sb LL ti cells slots : Nat} {xs : Nat → Int32} {oa : Nat} {am : Nat → Nat} {ou : Int64} {ad r1 r2 r3 : Nat → Nat} {nY : Nat} {ix bu : Nat → Nat} {np : Nat} {st sr : Nat → Nat} {sx tk : Nat → Nat → Nat} {rn sh sn : Nat → Nat} {yw nw : Nat} {yo ce wo : Nat → Nat} {po ne : Nat → Option Nat} {cs : Nat → Nat} {sv : Nat → Nat → Nat} {mk : Nat} {sp rs : Nat → Int} {bg dp : Nat} {th_ nY_ : Nat} {ix_ bu_ : Nat → Nat} {np_ : Nat} {st_ sr_ go_ ca_ : Nat → Nat} {nw_ : Nat} {yo_ ce_ wo_ : Nat → Nat} {po_ ne_ : Nat → Option Nat} {sv_ : Nat → Nat} {cl_ : Nat → Bool} {mk_ bg_ dp_ : Nat} {sh_ nx_ : Nat → Nat} {spn_ : Int} (E : gE p s m #[Value.ref sb] c code 8 R_La V) (hX : va_X sb LL xs s s.heap) (hbl : sb < s.heap.size) (hXJ : XJ s) (hfl : l.flags = flags0) (hL : LL ≤ 2561) (hiL : ti + 5 ≤ LL) (hcl : cells + 1 ≤ 601024) (hsl : slots + 6 ≤ 7293000) (a b v : Nat) (ha : a < nw) (hb : b < nw) (hab : a ≠ b) (hnw : nw ≤ 10) (h2 : v ≤ 1000000) (ha_ : a < nw_) (hb_ : b < nw_) (hab_ : a ≠ b) (hnw_ : nw_ ≤ 10) (h2_ : v ≤ 1000000) (hx1 : xs (ti + 1) = nI a) (hx2 : xs (ti + 2) = nI b) (hx3 : xs (ti + 3) = nI v) (hE : nI (sv a b) = nI (sv_ (10 * a + b))) (kk : gg p l e room_1 s m #[Value.ref sb] below meth c 8 (lw_Z below #[Value.ref sb] s) (cells) (slots) (gW V (fun q => s.heap.size ≤ q) s.heap (wG V oa ad r1 r2 r3 am ((nI (sv a b)).toInt64) nY ix bu np st sr sx tk rn sh sn yw nw yo ce wo po ne cs (mUp (mUp sv a b v) b a v) mk sp rs bg dp 0 nY_ ix_ bu_ np_ st_ sr_ go_ ca_ nw_ yo_ ce_ wo_ po_ ne_ (va_up (va_up sv_ (10 * a + b) v) (10 * b + a) v) cl_ mk_ bg_ dp_ sh_ nx_ spn_)) [(4, .int (nI ti)), (3, .ref oa), (2, .ref (am 0)), (1, .ref (ad 0)), (0, .ref sb)] 1527 []) : gg p l e room_1 s m #[Value.ref sb] below meth c 8 (lw_Z below #[Value.ref sb] s) cells slots (gW V (fun q => s.heap.size ≤ q) s.heap (wG V oa ad r1 r2 r3 am ou nY ix bu np st sr sx tk rn sh sn yw nw yo ce wo po ne cs sv mk sp rs bg dp th_ nY_ ix_ bu_ np_ st_ sr_ go_ ca_ nw_ yo_ ce_ wo_ po_ ne_ sv_ cl_ mk_ bg_ dp_ sh_ nx_ spn_)) [(4, .int (nI ti)), (3, .ref oa), (2, .ref (am 0)), (1, .ref (ad 0)), (0, .ref sb)] 831 [] := by
  refine g_aload_n E d_La_law_831 rfl 3 rfl ?_
  refine g_aload_n E d_La_law_832 rfl 4 rfl ?_
  refine g_iload E d_La_law_833 0 rfl ?_
  refine g_iconst (v := nI 1) E d_La_law_835 (by decide) ?_
  refine g_iadd E d_La_law_836 ?_
  refine g_topi (nI_add _ _) ?_
  refine g_scr E hX hbl (by omega) (by omega) d_La_law_837 ?_
  refine g_topi hx1 ?_
  refine g_aload_n E d_La_law_838 rfl 4 rfl ?_
  refine g_iload E d_La_law_839 0 rfl ?_
  refine g_iconst (v := nI 2) E d_La_law_841 (by decide) ?_
  refine g_iadd E d_La_law_842 ?_
  refine g_topi (nI_add _ _) ?_
  refine g_scr E hX hbl (by omega) (by omega) d_La_law_843 ?_
  refine g_topi hx2 ?_
  refine g_aload_n E d_La_law_844 rfl 4 rfl ?_
  refine g_iload E d_La_law_845 0 rfl ?_
  refine g_iconst (v := nI 3) E d_La_law_847 (by decide) ?_
  refine g_iadd E d_La_law_848 ?_
  refine g_topi (nI_add _ _) ?_
  refine g_scr E hX hbl (by omega) (by omega) d_La_law_849 ?_
  refine g_topi hx3 ?_
  refine g_aload_n E d_La_law_850 rfl 1 rfl ?_
  refine gwLi (w := wG V oa ad r1 r2 r3 am ou nY ix bu np st sr sx tk rn sh sn yw nw yo ce wo po ne cs sv mk sp rs bg dp th_ nY_ ix_ bu_ np_ st_ sr_ go_ ca_ nw_ yo_ ce_ wo_ po_ ne_ sv_ cl_ mk_ bg_ dp_ sh_ nx_ spn_) (w' := wG V oa ad r1 r2 r3 am ((nI (sv a b)).toInt64) nY ix bu np st sr sx tk rn sh sn yw nw yo ce wo po ne cs (mUp (mUp sv a b v) b a v) mk sp rs bg dp th_ nY_ ix_ bu_ np_ st_ sr_ go_ ca_ nw_ yo_ ce_ wo_ po_ ne_ sv_ cl_ mk_ bg_ dp_ sh_ nx_ spn_) (As := [.ref (ad 0), .int (nI a), .int (nI b), .int (nI v), .ref oa]) (rest := []) E (fun _ h => h) (si (fi (pre := wM V am th_ nY_ ix_ bu_ np_ st_ sr_ go_ ca_ nw_ yo_ ce_ wo_ po_ ne_ sv_ cl_ mk_ bg_ dp_ sh_ nx_ spn_) (L_CY_join l (oa := oa) (ou := ou) a b v ha hb hab hnw h2))) kc_La_join kl_La_122 ks_La_join kn_La kd_La_join rfl rfl ⟨Nat.le_of_ble_eq_true rfl, Nat.le_of_ble_eq_true rfl⟩ rfl rfl (Nat.le_of_ble_eq_true rfl) ⟨by show _ ≤ 601024; omega, by show _ ≤ 7293000; omega⟩ d_La_law_851 ?_
  refine g_istore (lv' := [(5, .int (nI 0)), (4, .int (nI ti)), (3, .ref oa), (2, .ref (am 0)), (1, .ref (ad 0)), (0, .ref sb)]) E d_La_law_854 (by decide) rfl ?_
  refine g_aload_n E d_La_law_856 rfl 3 rfl ?_
  refine g_aload_n E d_La_law_857 rfl 5 rfl ?_
  refine g_iload E d_La_law_858 1 rfl ?_
  refine g_iconst (v := nI 1) E d_La_law_860 (by decide) ?_
  refine g_iadd E d_La_law_861 ?_
  refine g_topi (nI_add _ _) ?_
  refine g_scr E hX hbl (by omega) (by omega) d_La_law_862 ?_
  refine g_topi hx1 ?_
  refine g_aload_n E d_La_law_863 rfl 5 rfl ?_
  refine g_iload E d_La_law_864 1 rfl ?_
  refine g_iconst (v := nI 2) E d_La_law_866 (by decide) ?_
  refine g_iadd E d_La_law_867 ?_
  refine g_topi (nI_add _ _) ?_
  refine g_scr E hX hbl (by omega) (by omega) d_La_law_868 ?_
  refine g_topi hx2 ?_
  refine g_aload_n E d_La_law_869 rfl 5 rfl ?_
  refine g_iload E d_La_law_870 1 rfl ?_
  refine g_iconst (v := nI 3) E d_La_law_872 (by decide) ?_
  refine g_iadd E d_La_law_873 ?_
  refine g_topi (nI_add _ _) ?_
  refine g_scr E hX hbl (by omega) (by omega) d_La_law_874 ?_
  refine g_topi hx3 ?_
  refine gwVi (w := wG V oa ad r1 r2 r3 am ((nI (sv a b)).toInt64) nY ix bu np st sr sx tk rn sh sn yw nw yo ce wo po ne cs (mUp (mUp sv a b v) b a v) mk sp rs bg dp th_ nY_ ix_ bu_ np_ st_ sr_ go_ ca_ nw_ yo_ ce_ wo_ po_ ne_ sv_ cl_ mk_ bg_ dp_ sh_ nx_ spn_) (w' := wG V oa ad r1 r2 r3 am ((nI (sv a b)).toInt64) nY ix bu np st sr sx tk rn sh sn yw nw yo ce wo po ne cs (mUp (mUp sv a b v) b a v) mk sp rs bg dp 0 nY_ ix_ bu_ np_ st_ sr_ go_ ca_ nw_ yo_ ce_ wo_ po_ ne_ (va_up (va_up sv_ (10 * a + b) v) (10 * b + a) v) cl_ mk_ bg_ dp_ sh_ nx_ spn_) (mc := 0) (ms := 0) (As := [.int (nI a), .int (nI b), .int (nI v)]) (rest := []) E (fun _ h => h) 57 wG_am rfl (fi (pre := (oa, aX V ((nI (sv a b)).toInt64)) :: wC V ad r1 r2 r3 nY ix bu np st sr sx tk rn sh sn yw nw yo ce wo po ne cs (mUp (mUp sv a b v) b a v) mk sp rs bg dp) (C_Mo_join l a b v ha_ hb_ hab_ hnw_ h2_)) (cs_La_124 E rfl rfl ⟨Nat.le_of_ble_eq_true rfl, Nat.le_of_ble_eq_true rfl⟩) rfl rfl (Nat.le_of_ble_eq_true rfl) ⟨by show _ ≤ 601024; omega, by show _ ≤ 7293000; omega⟩ d_La_law_875 ?_
  refine g_istore (lv' := [(6, .int (nI (sv_ (10 * a + b)))), (5, .int (nI 0)), (4, .int (nI ti)), (3, .ref oa), (2, .ref (am 0)), (1, .ref (ad 0)), (0, .ref sb)]) E d_La_law_878 (by decide) rfl ?_
  refine g_aload_n E d_La_law_880 rfl 4 rfl ?_
  refine gpVi (As := []) (rest := []) E gO_w 57 wG_am rfl (fpi0 (pre := (oa, aX V ((nI (sv a b)).toInt64)) :: wC V ad r1 r2 r3 nY ix bu np st sr sx tk rn sh sn yw nw yo ce wo po ne cs (mUp (mUp sv a b v) b a v) mk sp rs bg dp) (C_Mo_thrown l)) (cs_La_92 E rfl rfl ⟨Nat.le_of_ble_eq_true rfl, Nat.le_of_ble_eq_true rfl⟩) rfl rfl (Nat.le_of_ble_eq_true rfl) ⟨by show _ ≤ 601024; omega, by show _ ≤ 7293000; omega⟩ d_La_law_881 ?_
  refine g_iload E d_La_law_884 1 rfl ?_
  refine g_ncmp_eq E 891 d_La_law_886 (by decide) (by omega) (by omega) (fun h1 => ?_) (fun h1 => ?_)
  · refine g_iload E d_La_law_891 1 rfl ?_
    refine g_nif_ne E 908 d_La_law_893 (by decide) (by decide) (fun h2 => absurd h2 (by decide)) (fun _ => ?_)
    refine g_aload_n E d_La_law_896 rfl 3 rfl ?_
    refine g_iconst (v := nI 0) E d_La_law_897 (by decide) ?_
    refine g_ldX E gO_w 0 rfl d_La_law_898 ?_
    refine g_iload E d_La_law_899 0 rfl ?_
    refine g_i2l E d_La_law_901 ?_
    refine g_topl rfl ?_
    refine g_lcmp E d_La_law_902 ?_
    refine g_if_eq E 908 d_La_law_903 (by decide) (fun h3 => ?_) (fun h3 => ?_)
    · refine g_goto E 1527 d_La_law_908 (by decide) ?_
      refine g_lv [2, 3, 4, 5, 6] rfl ?_
      exact kk
    · exact absurd (lg_eq.mpr (by rw [hE])) h3
  · exact absurd rfl h1

set_option maxHeartbeats 4000000 in
set_option maxRecDepth 100000 in
theorem K_clash_t {p : Program} {l : Launch} {e : Env} {s : State} {m : MethodId} {below : List Frame} {meth : Method} {c : Code} {V : gV} {sb LL ti cells slots : Nat} {xs : Nat → Int32} {oa : Nat} {am : Nat → Nat} {ou : Int64} {ad r1 r2 r3 : Nat → Nat} {nY : Nat} {ix bu : Nat → Nat} {np : Nat} {st sr : Nat → Nat} {sx tk : Nat → Nat → Nat} {rn sh sn : Nat → Nat} {yw nw : Nat} {yo ce wo : Nat → Nat} {po ne : Nat → Option Nat} {cs : Nat → Nat} {sv : Nat → Nat → Nat} {mk : Nat} {sp rs : Nat → Int} {bg dp : Nat} {th_ nY_ : Nat} {ix_ bu_ : Nat → Nat} {np_ : Nat} {st_ sr_ go_ ca_ : Nat → Nat} {nw_ : Nat} {yo_ ce_ wo_ : Nat → Nat} {po_ ne_ : Nat → Option Nat} {sv_ : Nat → Nat} {cl_ : Nat → Bool} {mk_ bg_ dp_ : Nat} {sh_ nx_ : Nat → Nat} {spn_ : Int} (E : gE p s m #[Value.ref sb] c code 8 R_La V) (hX : va_X sb LL xs s s.heap) (hbl : sb < s.heap.size) (hXJ : XJ s) (hfl : l.flags = flags0) (hL : LL ≤ 2561) (hiL : ti + 5 ≤ LL) (hcl : cells + 1 ≤ 601024) (hsl : slots + 6 ≤ 7293000) (a b : Nat) (ha : a < nw) (hb : b < nw) (hab : a ≠ b) (hnw : nw ≤ 10) (hcs : ∀ w, cs w < 1024) (ha_ : a < nw_) (hb_ : b < nw_) (hab_ : a ≠ b) (hnw_ : nw_ ≤ 10) (hx1 : xs (ti + 1) = nI a) (hx2 : xs (ti + 2) = nI b) (hq : xs (ti + 3) ≠ 0) (hE : (cs a).testBit b = cl_ (10 * a + b)) (kk : gg p l e room_1 s m #[Value.ref sb] below meth c 8 (lw_Z below #[Value.ref sb] s) (cells) (slots) (gW V (fun q => s.heap.size ≤ q) s.heap (wG V oa ad r1 r2 r3 am (if (cs a).testBit b then lN 1 else lN 0) nY ix bu np st sr sx tk rn sh sn yw nw yo ce wo po ne (va_up (va_up cs a (sB (cs a) b true)) b (sB (cs b) a true)) sv mk sp rs bg dp 0 nY_ ix_ bu_ np_ st_ sr_ go_ ca_ nw_ yo_ ce_ wo_ po_ ne_ sv_ (va_up (va_up cl_ (10 * a + b) true) (10 * b + a) true) mk_ bg_ dp_ sh_ nx_ spn_)) [(4, .int (nI ti)), (3, .ref oa), (2, .ref (am 0)), (1, .ref (ad 0)), (0, .ref sb)] 1527 []) : gg p l e room_1 s m #[Value.ref sb] below meth c 8 (lw_Z below #[Value.ref sb] s) cells slots (gW V (fun q => s.heap.size ≤ q) s.heap (wG V oa ad r1 r2 r3 am ou nY ix bu np st sr sx tk rn sh sn yw nw yo ce wo po ne cs sv mk sp rs bg dp th_ nY_ ix_ bu_ np_ st_ sr_ go_ ca_ nw_ yo_ ce_ wo_ po_ ne_ sv_ cl_ mk_ bg_ dp_ sh_ nx_ spn_)) [(4, .int (nI ti)), (3, .ref oa), (2, .ref (am 0)), (1, .ref (ad 0)), (0, .ref sb)] 911 [] := by
  refine g_aload_n E d_La_law_911 rfl 3 rfl ?_
  refine g_aload_n E d_La_law_912 rfl 4 rfl ?_
  refine g_iload E d_La_law_913 0 rfl ?_
  refine g_iconst (v := nI 1) E d_La_law_915 (by decide) ?_
  refine g_iadd E d_La_law_916 ?_
  refine g_topi (nI_add _ _) ?_
  refine g_scr E hX hbl (by omega) (by omega) d_La_law_917 ?_
  refine g_topi hx1 ?_
  refine g_aload_n E d_La_law_918 rfl 4 rfl ?_
  refine g_iload E d_La_law_919 0 rfl ?_
  refine g_iconst (v := nI 2) E d_La_law_921 (by decide) ?_
  refine g_iadd E d_La_law_922 ?_
  refine g_topi (nI_add _ _) ?_
  refine g_scr E hX hbl (by omega) (by omega) d_La_law_923 ?_
  refine g_topi hx2 ?_
  refine g_aload_n E d_La_law_924 rfl 4 rfl ?_
  refine g_iload E d_La_law_925 0 rfl ?_
  refine g_iconst (v := nI 3) E d_La_law_927 (by decide) ?_
  refine g_iadd E d_La_law_928 ?_
  refine g_topi (nI_add _ _) ?_
  refine g_scr E hX hbl (by omega) (by omega) d_La_law_929 ?_
  refine g_if_eq E 937 d_La_law_930 (by decide) (fun h1 => ?_) (fun h1 => ?_)
  · exact absurd h1 hq
  · refine g_iconst (v := nI 1) E d_La_law_933 (by decide) ?_
    refine g_goto E 938 d_La_law_934 (by decide) ?_
    refine g_topi (show nI 1 = bI true from rfl) ?_
    refine g_aload_n E d_La_law_938 rfl 1 rfl ?_
    refine gwLi (w := wG V oa ad r1 r2 r3 am ou nY ix bu np st sr sx tk rn sh sn yw nw yo ce wo po ne cs sv mk sp rs bg dp th_ nY_ ix_ bu_ np_ st_ sr_ go_ ca_ nw_ yo_ ce_ wo_ po_ ne_ sv_ cl_ mk_ bg_ dp_ sh_ nx_ spn_) (w' := wG V oa ad r1 r2 r3 am (if (cs a).testBit b then lN 1 else lN 0) nY ix bu np st sr sx tk rn sh sn yw nw yo ce wo po ne (va_up (va_up cs a (sB (cs a) b true)) b (sB (cs b) a true)) sv mk sp rs bg dp th_ nY_ ix_ bu_ np_ st_ sr_ go_ ca_ nw_ yo_ ce_ wo_ po_ ne_ sv_ cl_ mk_ bg_ dp_ sh_ nx_ spn_) (As := [.ref (ad 0), .int (nI a), .int (nI b), .int (bI true), .ref oa]) (rest := []) E (fun _ h => h) (si (fi (pre := wM V am th_ nY_ ix_ bu_ np_ st_ sr_ go_ ca_ nw_ yo_ ce_ wo_ po_ ne_ sv_ cl_ mk_ bg_ dp_ sh_ nx_ spn_) (L_CY_clash l (oa := oa) (ou := ou) a b true ha hb hab hnw hcs))) kc_La_clash kl_La_125 ks_La_clash kn_La kd_La_clash rfl rfl ⟨Nat.le_of_ble_eq_true rfl, Nat.le_of_ble_eq_true rfl⟩ rfl rfl (Nat.le_of_ble_eq_true rfl) ⟨by show _ ≤ 601024; omega, by show _ ≤ 7293000; omega⟩ d_La_law_939 ?_
    refine g_istore (lv' := [(5, .int (nI 0)), (4, .int (nI ti)), (3, .ref oa), (2, .ref (am 0)), (1, .ref (ad 0)), (0, .ref sb)]) E d_La_law_942 (by decide) rfl ?_
    refine g_aload_n E d_La_law_944 rfl 3 rfl ?_
    refine g_aload_n E d_La_law_945 rfl 5 rfl ?_
    refine g_iload E d_La_law_946 1 rfl ?_
    refine g_iconst (v := nI 1) E d_La_law_948 (by decide) ?_
    refine g_iadd E d_La_law_949 ?_
    refine g_topi (nI_add _ _) ?_
    refine g_scr E hX hbl (by omega) (by omega) d_La_law_950 ?_
    refine g_topi hx1 ?_
    refine g_aload_n E d_La_law_951 rfl 5 rfl ?_
    refine g_iload E d_La_law_952 1 rfl ?_
    refine g_iconst (v := nI 2) E d_La_law_954 (by decide) ?_
    refine g_iadd E d_La_law_955 ?_
    refine g_topi (nI_add _ _) ?_
    refine g_scr E hX hbl (by omega) (by omega) d_La_law_956 ?_
    refine g_topi hx2 ?_
    refine g_aload_n E d_La_law_957 rfl 5 rfl ?_
    refine g_iload E d_La_law_958 1 rfl ?_
    refine g_iconst (v := nI 3) E d_La_law_960 (by decide) ?_
    refine g_iadd E d_La_law_961 ?_
    refine g_topi (nI_add _ _) ?_
    refine g_scr E hX hbl (by omega) (by omega) d_La_law_962 ?_
    refine g_if_eq E 970 d_La_law_963 (by decide) (fun h2 => ?_) (fun h2 => ?_)
    · exact absurd h2 hq
    · refine g_iconst (v := nI 1) E d_La_law_966 (by decide) ?_
      refine g_goto E 971 d_La_law_967 (by decide) ?_
      refine gwVi (w := wG V oa ad r1 r2 r3 am (if (cs a).testBit b then lN 1 else lN 0) nY ix bu np st sr sx tk rn sh sn yw nw yo ce wo po ne (va_up (va_up cs a (sB (cs a) b true)) b (sB (cs b) a true)) sv mk sp rs bg dp th_ nY_ ix_ bu_ np_ st_ sr_ go_ ca_ nw_ yo_ ce_ wo_ po_ ne_ sv_ cl_ mk_ bg_ dp_ sh_ nx_ spn_) (w' := wG V oa ad r1 r2 r3 am (if (cs a).testBit b then lN 1 else lN 0) nY ix bu np st sr sx tk rn sh sn yw nw yo ce wo po ne (va_up (va_up cs a (sB (cs a) b true)) b (sB (cs b) a true)) sv mk sp rs bg dp 0 nY_ ix_ bu_ np_ st_ sr_ go_ ca_ nw_ yo_ ce_ wo_ po_ ne_ sv_ (va_up (va_up cl_ (10 * a + b) true) (10 * b + a) true) mk_ bg_ dp_ sh_ nx_ spn_) (mc := 0) (ms := 0) (As := [.int (nI a), .int (nI b), .int (nI 1)]) (rest := []) E (fun _ h => h) 57 wG_am rfl (fi (pre := (oa, aX V (if (cs a).testBit b then lN 1 else lN 0)) :: wC V ad r1 r2 r3 nY ix bu np st sr sx tk rn sh sn yw nw yo ce wo po ne (va_up (va_up cs a (sB (cs a) b true)) b (sB (cs b) a true)) sv mk sp rs bg dp) (C_Mo_clash l a b true ha_ hb_ hab_ hnw_)) (cs_La_128 E rfl rfl ⟨Nat.le_of_ble_eq_true rfl, Nat.le_of_ble_eq_true rfl⟩) rfl rfl (Nat.le_of_ble_eq_true rfl) ⟨by show _ ≤ 601024; omega, by show _ ≤ 7293000; omega⟩ d_La_law_971 ?_
      refine g_istore (lv' := [(6, .int (bI (cl_ (10 * a + b)))), (5, .int (nI 0)), (4, .int (nI ti)), (3, .ref oa), (2, .ref (am 0)), (1, .ref (ad 0)), (0, .ref sb)]) E d_La_law_974 (by decide) rfl ?_
      refine g_aload_n E d_La_law_976 rfl 4 rfl ?_
      refine gpVi (As := []) (rest := []) E gO_w 57 wG_am rfl (fpi0 (pre := (oa, aX V (if (cs a).testBit b then lN 1 else lN 0)) :: wC V ad r1 r2 r3 nY ix bu np st sr sx tk rn sh sn yw nw yo ce wo po ne (va_up (va_up cs a (sB (cs a) b true)) b (sB (cs b) a true)) sv mk sp rs bg dp) (C_Mo_thrown l)) (cs_La_92 E rfl rfl ⟨Nat.le_of_ble_eq_true rfl, Nat.le_of_ble_eq_true rfl⟩) rfl rfl (Nat.le_of_ble_eq_true rfl) ⟨by show _ ≤ 601024; omega, by show _ ≤ 7293000; omega⟩ d_La_law_977 ?_
      refine g_iload E d_La_law_980 1 rfl ?_
      refine g_ncmp_eq E 987 d_La_law_982 (by decide) (by omega) (by omega) (fun h3 => ?_) (fun h3 => ?_)
      · refine g_iload E d_La_law_987 1 rfl ?_
        refine g_nif_ne E 1011 d_La_law_989 (by decide) (by decide) (fun h4 => absurd h4 (by decide)) (fun _ => ?_)
        refine g_aload_n E d_La_law_992 rfl 3 rfl ?_
        refine g_iconst (v := nI 0) E d_La_law_993 (by decide) ?_
        refine g_ldX E gO_w 0 rfl d_La_law_994 ?_
        refine g_iload E d_La_law_995 0 rfl ?_
        refine g_bif_eq E 1004 d_La_law_997 (by decide) (fun h5 => ?_) (fun h5 => ?_)
        · refine g_lconst (v := lN 0) E d_La_law_1004 (by decide) ?_
          refine g_lcmp E d_La_law_1005 ?_
          refine g_if_eq E 1011 d_La_law_1006 (by decide) (fun h6 => ?_) (fun h6 => ?_)
          · refine g_goto E 1527 d_La_law_1011 (by decide) ?_
            refine g_lv [2, 3, 4, 5, 6] rfl ?_
            exact kk
          · exact absurd (lg_eq.mpr (by rw [hE]; simp [h5])) h6
        · refine g_lconst (v := lN 1) E d_La_law_1000 (by decide) ?_
          refine g_goto E 1005 d_La_law_1001 (by decide) ?_
          refine g_lcmp E d_La_law_1005 ?_
          refine g_if_eq E 1011 d_La_law_1006 (by decide) (fun h7 => ?_) (fun h7 => ?_)
          · refine g_goto E 1527 d_La_law_1011 (by decide) ?_
            refine g_lv [2, 3, 4, 5, 6] rfl ?_
            exact kk
          · exact absurd (lg_eq.mpr (by rw [hE]; simp [h5])) h7
      · exact absurd rfl h3

set_option maxHeartbeats 4000000 in
set_option maxRecDepth 100000 in
theorem K_clash_f {p : Program} {l : Launch} {e : Env} {s : State} {m : MethodId} {below : List Frame} {meth : Method} {c : Code} {V : gV} {sb LL ti cells slots : Nat} {xs : Nat → Int32} {oa : Nat} {am : Nat → Nat} {ou : Int64} {ad r1 r2 r3 : Nat → Nat} {nY : Nat} {ix bu : Nat → Nat} {np : Nat} {st sr : Nat → Nat} {sx tk : Nat → Nat → Nat} {rn sh sn : Nat → Nat} {yw nw : Nat} {yo ce wo : Nat → Nat} {po ne : Nat → Option Nat} {cs : Nat → Nat} {sv : Nat → Nat → Nat} {mk : Nat} {sp rs : Nat → Int} {bg dp : Nat} {th_ nY_ : Nat} {ix_ bu_ : Nat → Nat} {np_ : Nat} {st_ sr_ go_ ca_ : Nat → Nat} {nw_ : Nat} {yo_ ce_ wo_ : Nat → Nat} {po_ ne_ : Nat → Option Nat} {sv_ : Nat → Nat} {cl_ : Nat → Bool} {mk_ bg_ dp_ : Nat} {sh_ nx_ : Nat → Nat} {spn_ : Int} (E : gE p s m #[Value.ref sb] c code 8 R_La V) (hX : va_X sb LL xs s s.heap) (hbl : sb < s.heap.size) (hXJ : XJ s) (hfl : l.flags = flags0) (hL : LL ≤ 2561) (hiL : ti + 5 ≤ LL) (hcl : cells + 1 ≤ 601024) (hsl : slots + 6 ≤ 7293000) (a b : Nat) (ha : a < nw) (hb : b < nw) (hab : a ≠ b) (hnw : nw ≤ 10) (hcs : ∀ w, cs w < 1024) (ha_ : a < nw_) (hb_ : b < nw_) (hab_ : a ≠ b) (hnw_ : nw_ ≤ 10) (hx1 : xs (ti + 1) = nI a) (hx2 : xs (ti + 2) = nI b) (hq : xs (ti + 3) = 0) (hE : (cs a).testBit b = cl_ (10 * a + b)) (kk : gg p l e room_1 s m #[Value.ref sb] below meth c 8 (lw_Z below #[Value.ref sb] s) (cells) (slots) (gW V (fun q => s.heap.size ≤ q) s.heap (wG V oa ad r1 r2 r3 am (if (cs a).testBit b then lN 1 else lN 0) nY ix bu np st sr sx tk rn sh sn yw nw yo ce wo po ne (va_up (va_up cs a (sB (cs a) b false)) b (sB (cs b) a false)) sv mk sp rs bg dp 0 nY_ ix_ bu_ np_ st_ sr_ go_ ca_ nw_ yo_ ce_ wo_ po_ ne_ sv_ (va_up (va_up cl_ (10 * a + b) false) (10 * b + a) false) mk_ bg_ dp_ sh_ nx_ spn_)) [(4, .int (nI ti)), (3, .ref oa), (2, .ref (am 0)), (1, .ref (ad 0)), (0, .ref sb)] 1527 []) : gg p l e room_1 s m #[Value.ref sb] below meth c 8 (lw_Z below #[Value.ref sb] s) cells slots (gW V (fun q => s.heap.size ≤ q) s.heap (wG V oa ad r1 r2 r3 am ou nY ix bu np st sr sx tk rn sh sn yw nw yo ce wo po ne cs sv mk sp rs bg dp th_ nY_ ix_ bu_ np_ st_ sr_ go_ ca_ nw_ yo_ ce_ wo_ po_ ne_ sv_ cl_ mk_ bg_ dp_ sh_ nx_ spn_)) [(4, .int (nI ti)), (3, .ref oa), (2, .ref (am 0)), (1, .ref (ad 0)), (0, .ref sb)] 911 [] := by
  refine g_aload_n E d_La_law_911 rfl 3 rfl ?_
  refine g_aload_n E d_La_law_912 rfl 4 rfl ?_
  refine g_iload E d_La_law_913 0 rfl ?_
  refine g_iconst (v := nI 1) E d_La_law_915 (by decide) ?_
  refine g_iadd E d_La_law_916 ?_
  refine g_topi (nI_add _ _) ?_
  refine g_scr E hX hbl (by omega) (by omega) d_La_law_917 ?_
  refine g_topi hx1 ?_
  refine g_aload_n E d_La_law_918 rfl 4 rfl ?_
  refine g_iload E d_La_law_919 0 rfl ?_
  refine g_iconst (v := nI 2) E d_La_law_921 (by decide) ?_
  refine g_iadd E d_La_law_922 ?_
  refine g_topi (nI_add _ _) ?_
  refine g_scr E hX hbl (by omega) (by omega) d_La_law_923 ?_
  refine g_topi hx2 ?_
  refine g_aload_n E d_La_law_924 rfl 4 rfl ?_
  refine g_iload E d_La_law_925 0 rfl ?_
  refine g_iconst (v := nI 3) E d_La_law_927 (by decide) ?_
  refine g_iadd E d_La_law_928 ?_
  refine g_topi (nI_add _ _) ?_
  refine g_scr E hX hbl (by omega) (by omega) d_La_law_929 ?_
  refine g_if_eq E 937 d_La_law_930 (by decide) (fun h1 => ?_) (fun h1 => ?_)
  · refine g_iconst (v := nI 0) E d_La_law_937 (by decide) ?_
    refine g_topi (show nI 0 = bI false from rfl) ?_
    refine g_aload_n E d_La_law_938 rfl 1 rfl ?_
    refine gwLi (w := wG V oa ad r1 r2 r3 am ou nY ix bu np st sr sx tk rn sh sn yw nw yo ce wo po ne cs sv mk sp rs bg dp th_ nY_ ix_ bu_ np_ st_ sr_ go_ ca_ nw_ yo_ ce_ wo_ po_ ne_ sv_ cl_ mk_ bg_ dp_ sh_ nx_ spn_) (w' := wG V oa ad r1 r2 r3 am (if (cs a).testBit b then lN 1 else lN 0) nY ix bu np st sr sx tk rn sh sn yw nw yo ce wo po ne (va_up (va_up cs a (sB (cs a) b false)) b (sB (cs b) a false)) sv mk sp rs bg dp th_ nY_ ix_ bu_ np_ st_ sr_ go_ ca_ nw_ yo_ ce_ wo_ po_ ne_ sv_ cl_ mk_ bg_ dp_ sh_ nx_ spn_) (As := [.ref (ad 0), .int (nI a), .int (nI b), .int (bI false), .ref oa]) (rest := []) E (fun _ h => h) (si (fi (pre := wM V am th_ nY_ ix_ bu_ np_ st_ sr_ go_ ca_ nw_ yo_ ce_ wo_ po_ ne_ sv_ cl_ mk_ bg_ dp_ sh_ nx_ spn_) (L_CY_clash l (oa := oa) (ou := ou) a b false ha hb hab hnw hcs))) kc_La_clash kl_La_125 ks_La_clash kn_La kd_La_clash rfl rfl ⟨Nat.le_of_ble_eq_true rfl, Nat.le_of_ble_eq_true rfl⟩ rfl rfl (Nat.le_of_ble_eq_true rfl) ⟨by show _ ≤ 601024; omega, by show _ ≤ 7293000; omega⟩ d_La_law_939 ?_
    refine g_istore (lv' := [(5, .int (nI 0)), (4, .int (nI ti)), (3, .ref oa), (2, .ref (am 0)), (1, .ref (ad 0)), (0, .ref sb)]) E d_La_law_942 (by decide) rfl ?_
    refine g_aload_n E d_La_law_944 rfl 3 rfl ?_
    refine g_aload_n E d_La_law_945 rfl 5 rfl ?_
    refine g_iload E d_La_law_946 1 rfl ?_
    refine g_iconst (v := nI 1) E d_La_law_948 (by decide) ?_
    refine g_iadd E d_La_law_949 ?_
    refine g_topi (nI_add _ _) ?_
    refine g_scr E hX hbl (by omega) (by omega) d_La_law_950 ?_
    refine g_topi hx1 ?_
    refine g_aload_n E d_La_law_951 rfl 5 rfl ?_
    refine g_iload E d_La_law_952 1 rfl ?_
    refine g_iconst (v := nI 2) E d_La_law_954 (by decide) ?_
    refine g_iadd E d_La_law_955 ?_
    refine g_topi (nI_add _ _) ?_
    refine g_scr E hX hbl (by omega) (by omega) d_La_law_956 ?_
    refine g_topi hx2 ?_
    refine g_aload_n E d_La_law_957 rfl 5 rfl ?_
    refine g_iload E d_La_law_958 1 rfl ?_
    refine g_iconst (v := nI 3) E d_La_law_960 (by decide) ?_
    refine g_iadd E d_La_law_961 ?_
    refine g_topi (nI_add _ _) ?_
    refine g_scr E hX hbl (by omega) (by omega) d_La_law_962 ?_
    refine g_if_eq E 970 d_La_law_963 (by decide) (fun h2 => ?_) (fun h2 => ?_)
    · refine g_iconst (v := nI 0) E d_La_law_970 (by decide) ?_
      refine gwVi (w := wG V oa ad r1 r2 r3 am (if (cs a).testBit b then lN 1 else lN 0) nY ix bu np st sr sx tk rn sh sn yw nw yo ce wo po ne (va_up (va_up cs a (sB (cs a) b false)) b (sB (cs b) a false)) sv mk sp rs bg dp th_ nY_ ix_ bu_ np_ st_ sr_ go_ ca_ nw_ yo_ ce_ wo_ po_ ne_ sv_ cl_ mk_ bg_ dp_ sh_ nx_ spn_) (w' := wG V oa ad r1 r2 r3 am (if (cs a).testBit b then lN 1 else lN 0) nY ix bu np st sr sx tk rn sh sn yw nw yo ce wo po ne (va_up (va_up cs a (sB (cs a) b false)) b (sB (cs b) a false)) sv mk sp rs bg dp 0 nY_ ix_ bu_ np_ st_ sr_ go_ ca_ nw_ yo_ ce_ wo_ po_ ne_ sv_ (va_up (va_up cl_ (10 * a + b) false) (10 * b + a) false) mk_ bg_ dp_ sh_ nx_ spn_) (mc := 0) (ms := 0) (As := [.int (nI a), .int (nI b), .int (nI 0)]) (rest := []) E (fun _ h => h) 57 wG_am rfl (fi (pre := (oa, aX V (if (cs a).testBit b then lN 1 else lN 0)) :: wC V ad r1 r2 r3 nY ix bu np st sr sx tk rn sh sn yw nw yo ce wo po ne (va_up (va_up cs a (sB (cs a) b false)) b (sB (cs b) a false)) sv mk sp rs bg dp) (C_Mo_clash l a b false ha_ hb_ hab_ hnw_)) (cs_La_128 E rfl rfl ⟨Nat.le_of_ble_eq_true rfl, Nat.le_of_ble_eq_true rfl⟩) rfl rfl (Nat.le_of_ble_eq_true rfl) ⟨by show _ ≤ 601024; omega, by show _ ≤ 7293000; omega⟩ d_La_law_971 ?_
      refine g_istore (lv' := [(6, .int (bI (cl_ (10 * a + b)))), (5, .int (nI 0)), (4, .int (nI ti)), (3, .ref oa), (2, .ref (am 0)), (1, .ref (ad 0)), (0, .ref sb)]) E d_La_law_974 (by decide) rfl ?_
      refine g_aload_n E d_La_law_976 rfl 4 rfl ?_
      refine gpVi (As := []) (rest := []) E gO_w 57 wG_am rfl (fpi0 (pre := (oa, aX V (if (cs a).testBit b then lN 1 else lN 0)) :: wC V ad r1 r2 r3 nY ix bu np st sr sx tk rn sh sn yw nw yo ce wo po ne (va_up (va_up cs a (sB (cs a) b false)) b (sB (cs b) a false)) sv mk sp rs bg dp) (C_Mo_thrown l)) (cs_La_92 E rfl rfl ⟨Nat.le_of_ble_eq_true rfl, Nat.le_of_ble_eq_true rfl⟩) rfl rfl (Nat.le_of_ble_eq_true rfl) ⟨by show _ ≤ 601024; omega, by show _ ≤ 7293000; omega⟩ d_La_law_977 ?_
      refine g_iload E d_La_law_980 1 rfl ?_
      refine g_ncmp_eq E 987 d_La_law_982 (by decide) (by omega) (by omega) (fun h3 => ?_) (fun h3 => ?_)
      · refine g_iload E d_La_law_987 1 rfl ?_
        refine g_nif_ne E 1011 d_La_law_989 (by decide) (by decide) (fun h4 => absurd h4 (by decide)) (fun _ => ?_)
        refine g_aload_n E d_La_law_992 rfl 3 rfl ?_
        refine g_iconst (v := nI 0) E d_La_law_993 (by decide) ?_
        refine g_ldX E gO_w 0 rfl d_La_law_994 ?_
        refine g_iload E d_La_law_995 0 rfl ?_
        refine g_bif_eq E 1004 d_La_law_997 (by decide) (fun h5 => ?_) (fun h5 => ?_)
        · refine g_lconst (v := lN 0) E d_La_law_1004 (by decide) ?_
          refine g_lcmp E d_La_law_1005 ?_
          refine g_if_eq E 1011 d_La_law_1006 (by decide) (fun h6 => ?_) (fun h6 => ?_)
          · refine g_goto E 1527 d_La_law_1011 (by decide) ?_
            refine g_lv [2, 3, 4, 5, 6] rfl ?_
            exact kk
          · exact absurd (lg_eq.mpr (by rw [hE]; simp [h5])) h6
        · refine g_lconst (v := lN 1) E d_La_law_1000 (by decide) ?_
          refine g_goto E 1005 d_La_law_1001 (by decide) ?_
          refine g_lcmp E d_La_law_1005 ?_
          refine g_if_eq E 1011 d_La_law_1006 (by decide) (fun h7 => ?_) (fun h7 => ?_)
          · refine g_goto E 1527 d_La_law_1011 (by decide) ?_
            refine g_lv [2, 3, 4, 5, 6] rfl ?_
            exact kk
          · exact absurd (lg_eq.mpr (by rw [hE]; simp [h5])) h7
      · exact absurd rfl h3
    · exact absurd hq h2
  · exact absurd hq h1

set_option maxHeartbeats 4000000 in
set_option maxRecDepth 100000 in
theorem K_needs_n {p : Program} {l : Launch} {e : Env} {s : State} {m : MethodId} {below : List Frame} {meth : Method} {c : Code} {V : gV} {sb LL ti cells slots : Nat} {xs : Nat → Int32} {oa : Nat} {am : Nat → Nat} {ou : Int64} {ad r1 r2 r3 : Nat → Nat} {nY : Nat} {ix bu : Nat → Nat} {np : Nat} {st sr : Nat → Nat} {sx tk : Nat → Nat → Nat} {rn sh sn : Nat → Nat} {yw nw : Nat} {yo ce wo : Nat → Nat} {po ne : Nat → Option Nat} {cs : Nat → Nat} {sv : Nat → Nat → Nat} {mk : Nat} {sp rs : Nat → Int} {bg dp : Nat} {th_ nY_ : Nat} {ix_ bu_ : Nat → Nat} {np_ : Nat} {st_ sr_ go_ ca_ : Nat → Nat} {nw_ : Nat} {yo_ ce_ wo_ : Nat → Nat} {po_ ne_ : Nat → Option Nat} {sv_ : Nat → Nat} {cl_ : Nat → Bool} {mk_ bg_ dp_ : Nat} {sh_ nx_ : Nat → Nat} {spn_ : Int} (E : gE p s m #[Value.ref sb] c code 8 R_La V) (hX : va_X sb LL xs s s.heap) (hbl : sb < s.heap.size) (hXJ : XJ s) (hfl : l.flags = flags0) (hL : LL ≤ 2561) (hiL : ti + 5 ≤ LL) (hcl : cells + 1 ≤ 601024) (hsl : slots + 6 ≤ 7293000) (a : Nat)  (ha : a < nw) (hnw : nw ≤ 10) (ha_ : a < nw_) (hnw_ : nw_ ≤ 10) (hx1 : xs (ti + 1) = nI a) (hx2 : xs (ti + 2) = oN none) (hE : oN (ne a) = oN (ne_ a)) (kk : gg p l e room_1 s m #[Value.ref sb] below meth c 8 (lw_Z below #[Value.ref sb] s) (cells) (slots) (gW V (fun q => s.heap.size ≤ q) s.heap (wG V oa ad r1 r2 r3 am ((oN (ne a)).toInt64) nY ix bu np st sr sx tk rn sh sn yw nw yo ce wo po (va_up ne a none) cs sv mk sp rs bg dp 0 nY_ ix_ bu_ np_ st_ sr_ go_ ca_ nw_ yo_ ce_ wo_ po_ (va_up ne_ a none) sv_ cl_ mk_ bg_ dp_ sh_ nx_ spn_)) [(4, .int (nI ti)), (3, .ref oa), (2, .ref (am 0)), (1, .ref (ad 0)), (0, .ref sb)] 1527 []) : gg p l e room_1 s m #[Value.ref sb] below meth c 8 (lw_Z below #[Value.ref sb] s) cells slots (gW V (fun q => s.heap.size ≤ q) s.heap (wG V oa ad r1 r2 r3 am ou nY ix bu np st sr sx tk rn sh sn yw nw yo ce wo po ne cs sv mk sp rs bg dp th_ nY_ ix_ bu_ np_ st_ sr_ go_ ca_ nw_ yo_ ce_ wo_ po_ ne_ sv_ cl_ mk_ bg_ dp_ sh_ nx_ spn_)) [(4, .int (nI ti)), (3, .ref oa), (2, .ref (am 0)), (1, .ref (ad 0)), (0, .ref sb)] 1014 [] := by
  refine g_aload_n E d_La_law_1014 rfl 3 rfl ?_
  refine g_aload_n E d_La_law_1015 rfl 4 rfl ?_
  refine g_iload E d_La_law_1016 0 rfl ?_
  refine g_iconst (v := nI 1) E d_La_law_1018 (by decide) ?_
  refine g_iadd E d_La_law_1019 ?_
  refine g_topi (nI_add _ _) ?_
  refine g_scr E hX hbl (by omega) (by omega) d_La_law_1020 ?_
  refine g_topi hx1 ?_
  refine g_aload_n E d_La_law_1021 rfl 4 rfl ?_
  refine g_iload E d_La_law_1022 0 rfl ?_
  refine g_iconst (v := nI 2) E d_La_law_1024 (by decide) ?_
  refine g_iadd E d_La_law_1025 ?_
  refine g_topi (nI_add _ _) ?_
  refine g_scr E hX hbl (by omega) (by omega) d_La_law_1026 ?_
  refine g_topi hx2 ?_
  refine g_aload_n E d_La_law_1027 rfl 1 rfl ?_
  refine gwLi (w := wG V oa ad r1 r2 r3 am ou nY ix bu np st sr sx tk rn sh sn yw nw yo ce wo po ne cs sv mk sp rs bg dp th_ nY_ ix_ bu_ np_ st_ sr_ go_ ca_ nw_ yo_ ce_ wo_ po_ ne_ sv_ cl_ mk_ bg_ dp_ sh_ nx_ spn_) (w' := wG V oa ad r1 r2 r3 am ((oN (ne a)).toInt64) nY ix bu np st sr sx tk rn sh sn yw nw yo ce wo po (va_up ne a none) cs sv mk sp rs bg dp th_ nY_ ix_ bu_ np_ st_ sr_ go_ ca_ nw_ yo_ ce_ wo_ po_ ne_ sv_ cl_ mk_ bg_ dp_ sh_ nx_ spn_) (As := [.ref (ad 0), .int (nI a), .int (oN none), .ref oa]) (rest := []) E (fun _ h => h) (si (fi (pre := wM V am th_ nY_ ix_ bu_ np_ st_ sr_ go_ ca_ nw_ yo_ ce_ wo_ po_ ne_ sv_ cl_ mk_ bg_ dp_ sh_ nx_ spn_) (L_CY_needs_n l (oa := oa) (ou := ou) a ha hnw))) kc_La_needs kl_La_129 ks_La_needs kn_La kd_La_needs rfl rfl ⟨Nat.le_of_ble_eq_true rfl, Nat.le_of_ble_eq_true rfl⟩ rfl rfl (Nat.le_of_ble_eq_true rfl) ⟨by show _ ≤ 601024; omega, by show _ ≤ 7293000; omega⟩ d_La_law_1028 ?_
  refine g_istore (lv' := [(5, .int (nI 0)), (4, .int (nI ti)), (3, .ref oa), (2, .ref (am 0)), (1, .ref (ad 0)), (0, .ref sb)]) E d_La_law_1031 (by decide) rfl ?_
  refine g_aload_n E d_La_law_1033 rfl 3 rfl ?_
  refine g_aload_n E d_La_law_1034 rfl 5 rfl ?_
  refine g_iload E d_La_law_1035 1 rfl ?_
  refine g_iconst (v := nI 1) E d_La_law_1037 (by decide) ?_
  refine g_iadd E d_La_law_1038 ?_
  refine g_topi (nI_add _ _) ?_
  refine g_scr E hX hbl (by omega) (by omega) d_La_law_1039 ?_
  refine g_topi hx1 ?_
  refine g_aload_n E d_La_law_1040 rfl 5 rfl ?_
  refine g_iload E d_La_law_1041 1 rfl ?_
  refine g_iconst (v := nI 2) E d_La_law_1043 (by decide) ?_
  refine g_iadd E d_La_law_1044 ?_
  refine g_topi (nI_add _ _) ?_
  refine g_scr E hX hbl (by omega) (by omega) d_La_law_1045 ?_
  refine g_topi hx2 ?_
  refine gwVi (w := wG V oa ad r1 r2 r3 am ((oN (ne a)).toInt64) nY ix bu np st sr sx tk rn sh sn yw nw yo ce wo po (va_up ne a none) cs sv mk sp rs bg dp th_ nY_ ix_ bu_ np_ st_ sr_ go_ ca_ nw_ yo_ ce_ wo_ po_ ne_ sv_ cl_ mk_ bg_ dp_ sh_ nx_ spn_) (w' := wG V oa ad r1 r2 r3 am ((oN (ne a)).toInt64) nY ix bu np st sr sx tk rn sh sn yw nw yo ce wo po (va_up ne a none) cs sv mk sp rs bg dp 0 nY_ ix_ bu_ np_ st_ sr_ go_ ca_ nw_ yo_ ce_ wo_ po_ (va_up ne_ a none) sv_ cl_ mk_ bg_ dp_ sh_ nx_ spn_) (mc := 0) (ms := 0) (As := [.int (nI a), .int (oN none)]) (rest := []) E (fun _ h => h) 57 wG_am rfl (fi (pre := (oa, aX V ((oN (ne a)).toInt64)) :: wC V ad r1 r2 r3 nY ix bu np st sr sx tk rn sh sn yw nw yo ce wo po (va_up ne a none) cs sv mk sp rs bg dp) (C_Mo_needs_n l a ha_ hnw_)) (cs_La_131 E rfl rfl ⟨Nat.le_of_ble_eq_true rfl, Nat.le_of_ble_eq_true rfl⟩) rfl rfl (Nat.le_of_ble_eq_true rfl) ⟨by show _ ≤ 601024; omega, by show _ ≤ 7293000; omega⟩ d_La_law_1046 ?_
  refine g_istore (lv' := [(6, .int (oN (ne_ a))), (5, .int (nI 0)), (4, .int (nI ti)), (3, .ref oa), (2, .ref (am 0)), (1, .ref (ad 0)), (0, .ref sb)]) E d_La_law_1049 (by decide) rfl ?_
  refine g_aload_n E d_La_law_1051 rfl 4 rfl ?_
  refine gpVi (As := []) (rest := []) E gO_w 57 wG_am rfl (fpi0 (pre := (oa, aX V ((oN (ne a)).toInt64)) :: wC V ad r1 r2 r3 nY ix bu np st sr sx tk rn sh sn yw nw yo ce wo po (va_up ne a none) cs sv mk sp rs bg dp) (C_Mo_thrown l)) (cs_La_92 E rfl rfl ⟨Nat.le_of_ble_eq_true rfl, Nat.le_of_ble_eq_true rfl⟩) rfl rfl (Nat.le_of_ble_eq_true rfl) ⟨by show _ ≤ 601024; omega, by show _ ≤ 7293000; omega⟩ d_La_law_1052 ?_
  refine g_iload E d_La_law_1055 1 rfl ?_
  refine g_ncmp_eq E 1062 d_La_law_1057 (by decide) (by omega) (by omega) (fun h1 => ?_) (fun h1 => ?_)
  · refine g_iload E d_La_law_1062 1 rfl ?_
    refine g_nif_ne E 1079 d_La_law_1064 (by decide) (by decide) (fun h2 => absurd h2 (by decide)) (fun _ => ?_)
    refine g_aload_n E d_La_law_1067 rfl 3 rfl ?_
    refine g_iconst (v := nI 0) E d_La_law_1068 (by decide) ?_
    refine g_ldX E gO_w 0 rfl d_La_law_1069 ?_
    refine g_iload E d_La_law_1070 0 rfl ?_
    refine g_i2l E d_La_law_1072 ?_
    refine g_topl rfl ?_
    refine g_lcmp E d_La_law_1073 ?_
    refine g_if_eq E 1079 d_La_law_1074 (by decide) (fun h3 => ?_) (fun h3 => ?_)
    · refine g_goto E 1527 d_La_law_1079 (by decide) ?_
      refine g_lv [2, 3, 4, 5, 6] rfl ?_
      exact kk
    · exact absurd (lg_eq.mpr (by rw [hE])) h3
  · exact absurd rfl h1

set_option maxHeartbeats 4000000 in
set_option maxRecDepth 100000 in
theorem K_needs_s {p : Program} {l : Launch} {e : Env} {s : State} {m : MethodId} {below : List Frame} {meth : Method} {c : Code} {V : gV} {sb LL ti cells slots : Nat} {xs : Nat → Int32} {oa : Nat} {am : Nat → Nat} {ou : Int64} {ad r1 r2 r3 : Nat → Nat} {nY : Nat} {ix bu : Nat → Nat} {np : Nat} {st sr : Nat → Nat} {sx tk : Nat → Nat → Nat} {rn sh sn : Nat → Nat} {yw nw : Nat} {yo ce wo : Nat → Nat} {po ne : Nat → Option Nat} {cs : Nat → Nat} {sv : Nat → Nat → Nat} {mk : Nat} {sp rs : Nat → Int} {bg dp : Nat} {th_ nY_ : Nat} {ix_ bu_ : Nat → Nat} {np_ : Nat} {st_ sr_ go_ ca_ : Nat → Nat} {nw_ : Nat} {yo_ ce_ wo_ : Nat → Nat} {po_ ne_ : Nat → Option Nat} {sv_ : Nat → Nat} {cl_ : Nat → Bool} {mk_ bg_ dp_ : Nat} {sh_ nx_ : Nat → Nat} {spn_ : Int} (E : gE p s m #[Value.ref sb] c code 8 R_La V) (hX : va_X sb LL xs s s.heap) (hbl : sb < s.heap.size) (hXJ : XJ s) (hfl : l.flags = flags0) (hL : LL ≤ 2561) (hiL : ti + 5 ≤ LL) (hcl : cells + 1 ≤ 601024) (hsl : slots + 6 ≤ 7293000) (a : Nat) (q : Nat) (hq : q < nw) (haq : a ≠ q) (ha : a < nw) (hnw : nw ≤ 10) (hq_ : q < nw_) (haq_ : a ≠ q) (ha_ : a < nw_) (hnw_ : nw_ ≤ 10) (hx1 : xs (ti + 1) = nI a) (hx2 : xs (ti + 2) = nI q) (hE : oN (ne a) = oN (ne_ a)) (kk : gg p l e room_1 s m #[Value.ref sb] below meth c 8 (lw_Z below #[Value.ref sb] s) (cells) (slots) (gW V (fun q => s.heap.size ≤ q) s.heap (wG V oa ad r1 r2 r3 am ((oN (ne a)).toInt64) nY ix bu np st sr sx tk rn sh sn yw nw yo ce wo po (va_up ne a (some q)) cs sv mk sp rs bg dp 0 nY_ ix_ bu_ np_ st_ sr_ go_ ca_ nw_ yo_ ce_ wo_ po_ (va_up ne_ a (some q)) sv_ cl_ mk_ bg_ dp_ sh_ nx_ spn_)) [(4, .int (nI ti)), (3, .ref oa), (2, .ref (am 0)), (1, .ref (ad 0)), (0, .ref sb)] 1527 []) : gg p l e room_1 s m #[Value.ref sb] below meth c 8 (lw_Z below #[Value.ref sb] s) cells slots (gW V (fun q => s.heap.size ≤ q) s.heap (wG V oa ad r1 r2 r3 am ou nY ix bu np st sr sx tk rn sh sn yw nw yo ce wo po ne cs sv mk sp rs bg dp th_ nY_ ix_ bu_ np_ st_ sr_ go_ ca_ nw_ yo_ ce_ wo_ po_ ne_ sv_ cl_ mk_ bg_ dp_ sh_ nx_ spn_)) [(4, .int (nI ti)), (3, .ref oa), (2, .ref (am 0)), (1, .ref (ad 0)), (0, .ref sb)] 1014 [] := by
  refine g_aload_n E d_La_law_1014 rfl 3 rfl ?_
  refine g_aload_n E d_La_law_1015 rfl 4 rfl ?_
  refine g_iload E d_La_law_1016 0 rfl ?_
  refine g_iconst (v := nI 1) E d_La_law_1018 (by decide) ?_
  refine g_iadd E d_La_law_1019 ?_
  refine g_topi (nI_add _ _) ?_
  refine g_scr E hX hbl (by omega) (by omega) d_La_law_1020 ?_
  refine g_topi hx1 ?_
  refine g_aload_n E d_La_law_1021 rfl 4 rfl ?_
  refine g_iload E d_La_law_1022 0 rfl ?_
  refine g_iconst (v := nI 2) E d_La_law_1024 (by decide) ?_
  refine g_iadd E d_La_law_1025 ?_
  refine g_topi (nI_add _ _) ?_
  refine g_scr E hX hbl (by omega) (by omega) d_La_law_1026 ?_
  refine g_topi hx2 ?_
  refine g_aload_n E d_La_law_1027 rfl 1 rfl ?_
  refine gwLi (w := wG V oa ad r1 r2 r3 am ou nY ix bu np st sr sx tk rn sh sn yw nw yo ce wo po ne cs sv mk sp rs bg dp th_ nY_ ix_ bu_ np_ st_ sr_ go_ ca_ nw_ yo_ ce_ wo_ po_ ne_ sv_ cl_ mk_ bg_ dp_ sh_ nx_ spn_) (w' := wG V oa ad r1 r2 r3 am ((oN (ne a)).toInt64) nY ix bu np st sr sx tk rn sh sn yw nw yo ce wo po (va_up ne a (some q)) cs sv mk sp rs bg dp th_ nY_ ix_ bu_ np_ st_ sr_ go_ ca_ nw_ yo_ ce_ wo_ po_ ne_ sv_ cl_ mk_ bg_ dp_ sh_ nx_ spn_) (As := [.ref (ad 0), .int (nI a), .int (nI q), .ref oa]) (rest := []) E (fun _ h => h) (si (fi (pre := wM V am th_ nY_ ix_ bu_ np_ st_ sr_ go_ ca_ nw_ yo_ ce_ wo_ po_ ne_ sv_ cl_ mk_ bg_ dp_ sh_ nx_ spn_) (L_CY_needs_s l (oa := oa) (ou := ou) a q hq haq ha hnw))) kc_La_needs kl_La_129 ks_La_needs kn_La kd_La_needs rfl rfl ⟨Nat.le_of_ble_eq_true rfl, Nat.le_of_ble_eq_true rfl⟩ rfl rfl (Nat.le_of_ble_eq_true rfl) ⟨by show _ ≤ 601024; omega, by show _ ≤ 7293000; omega⟩ d_La_law_1028 ?_
  refine g_istore (lv' := [(5, .int (nI 0)), (4, .int (nI ti)), (3, .ref oa), (2, .ref (am 0)), (1, .ref (ad 0)), (0, .ref sb)]) E d_La_law_1031 (by decide) rfl ?_
  refine g_aload_n E d_La_law_1033 rfl 3 rfl ?_
  refine g_aload_n E d_La_law_1034 rfl 5 rfl ?_
  refine g_iload E d_La_law_1035 1 rfl ?_
  refine g_iconst (v := nI 1) E d_La_law_1037 (by decide) ?_
  refine g_iadd E d_La_law_1038 ?_
  refine g_topi (nI_add _ _) ?_
  refine g_scr E hX hbl (by omega) (by omega) d_La_law_1039 ?_
  refine g_topi hx1 ?_
  refine g_aload_n E d_La_law_1040 rfl 5 rfl ?_
  refine g_iload E d_La_law_1041 1 rfl ?_
  refine g_iconst (v := nI 2) E d_La_law_1043 (by decide) ?_
  refine g_iadd E d_La_law_1044 ?_
  refine g_topi (nI_add _ _) ?_
  refine g_scr E hX hbl (by omega) (by omega) d_La_law_1045 ?_
  refine g_topi hx2 ?_
  refine gwVi (w := wG V oa ad r1 r2 r3 am ((oN (ne a)).toInt64) nY ix bu np st sr sx tk rn sh sn yw nw yo ce wo po (va_up ne a (some q)) cs sv mk sp rs bg dp th_ nY_ ix_ bu_ np_ st_ sr_ go_ ca_ nw_ yo_ ce_ wo_ po_ ne_ sv_ cl_ mk_ bg_ dp_ sh_ nx_ spn_) (w' := wG V oa ad r1 r2 r3 am ((oN (ne a)).toInt64) nY ix bu np st sr sx tk rn sh sn yw nw yo ce wo po (va_up ne a (some q)) cs sv mk sp rs bg dp 0 nY_ ix_ bu_ np_ st_ sr_ go_ ca_ nw_ yo_ ce_ wo_ po_ (va_up ne_ a (some q)) sv_ cl_ mk_ bg_ dp_ sh_ nx_ spn_) (mc := 0) (ms := 0) (As := [.int (nI a), .int (nI q)]) (rest := []) E (fun _ h => h) 57 wG_am rfl (fi (pre := (oa, aX V ((oN (ne a)).toInt64)) :: wC V ad r1 r2 r3 nY ix bu np st sr sx tk rn sh sn yw nw yo ce wo po (va_up ne a (some q)) cs sv mk sp rs bg dp) (C_Mo_needs_s l a q hq_ haq_ ha_ hnw_)) (cs_La_131 E rfl rfl ⟨Nat.le_of_ble_eq_true rfl, Nat.le_of_ble_eq_true rfl⟩) rfl rfl (Nat.le_of_ble_eq_true rfl) ⟨by show _ ≤ 601024; omega, by show _ ≤ 7293000; omega⟩ d_La_law_1046 ?_
  refine g_istore (lv' := [(6, .int (oN (ne_ a))), (5, .int (nI 0)), (4, .int (nI ti)), (3, .ref oa), (2, .ref (am 0)), (1, .ref (ad 0)), (0, .ref sb)]) E d_La_law_1049 (by decide) rfl ?_
  refine g_aload_n E d_La_law_1051 rfl 4 rfl ?_
  refine gpVi (As := []) (rest := []) E gO_w 57 wG_am rfl (fpi0 (pre := (oa, aX V ((oN (ne a)).toInt64)) :: wC V ad r1 r2 r3 nY ix bu np st sr sx tk rn sh sn yw nw yo ce wo po (va_up ne a (some q)) cs sv mk sp rs bg dp) (C_Mo_thrown l)) (cs_La_92 E rfl rfl ⟨Nat.le_of_ble_eq_true rfl, Nat.le_of_ble_eq_true rfl⟩) rfl rfl (Nat.le_of_ble_eq_true rfl) ⟨by show _ ≤ 601024; omega, by show _ ≤ 7293000; omega⟩ d_La_law_1052 ?_
  refine g_iload E d_La_law_1055 1 rfl ?_
  refine g_ncmp_eq E 1062 d_La_law_1057 (by decide) (by omega) (by omega) (fun h1 => ?_) (fun h1 => ?_)
  · refine g_iload E d_La_law_1062 1 rfl ?_
    refine g_nif_ne E 1079 d_La_law_1064 (by decide) (by decide) (fun h2 => absurd h2 (by decide)) (fun _ => ?_)
    refine g_aload_n E d_La_law_1067 rfl 3 rfl ?_
    refine g_iconst (v := nI 0) E d_La_law_1068 (by decide) ?_
    refine g_ldX E gO_w 0 rfl d_La_law_1069 ?_
    refine g_iload E d_La_law_1070 0 rfl ?_
    refine g_i2l E d_La_law_1072 ?_
    refine g_topl rfl ?_
    refine g_lcmp E d_La_law_1073 ?_
    refine g_if_eq E 1079 d_La_law_1074 (by decide) (fun h3 => ?_) (fun h3 => ?_)
    · refine g_goto E 1527 d_La_law_1079 (by decide) ?_
      refine g_lv [2, 3, 4, 5, 6] rfl ?_
      exact kk
    · exact absurd (lg_eq.mpr (by rw [hE])) h3
  · exact absurd rfl h1

set_option maxHeartbeats 4000000 in
set_option maxRecDepth 100000 in
theorem K_choose {p : Program} {l : Launch} {e : Env} {s : State} {m : MethodId} {below : List Frame} {meth : Method} {c : Code} {V : gV} {sb LL ti cells slots : Nat} {xs : Nat → Int32} {oa : Nat} {am : Nat → Nat} {ou : Int64} {ad r1 r2 r3 : Nat → Nat} {nY : Nat} {ix bu : Nat → Nat} {np : Nat} {st sr : Nat → Nat} {sx tk : Nat → Nat → Nat} {rn sh sn : Nat → Nat} {yw nw : Nat} {yo ce wo : Nat → Nat} {po ne : Nat → Option Nat} {cs : Nat → Nat} {sv : Nat → Nat → Nat} {mk : Nat} {sp rs : Nat → Int} {bg dp : Nat} {th_ nY_ : Nat} {ix_ bu_ : Nat → Nat} {np_ : Nat} {st_ sr_ go_ ca_ : Nat → Nat} {nw_ : Nat} {yo_ ce_ wo_ : Nat → Nat} {po_ ne_ : Nat → Option Nat} {sv_ : Nat → Nat} {cl_ : Nat → Bool} {mk_ bg_ dp_ : Nat} {sh_ nx_ : Nat → Nat} {spn_ : Int} (E : gE p s m #[Value.ref sb] c code 8 R_La V) (hX : va_X sb LL xs s s.heap) (hbl : sb < s.heap.size) (hXJ : XJ s) (hfl : l.flags = flags0) (hL : LL ≤ 2561) (hiL : ti + 5 ≤ LL) (hcl : cells + 1 ≤ 601024) (hsl : slots + 6 ≤ 7293000) (hnw : nw ≤ 10) (hY : nY ≤ 12) (hyY : ∀ w, yo w < nY) (hyo : ∀ w, yo w < 12) (hix : ∀ y, ix y ≤ 2000) (hce : ∀ w, ce w ≤ 1000000) (hsv : ∀ a b, sv a b ≤ 1000000) (hbu : ∀ y, bu y ≤ 1000000000) (hwo : ∀ w, wo w ≤ 1000000) (hcs : ∀ w, cs w < 1024) (hne : ∀ w q, ne w = some q → q < 10) (hpo : ∀ w q, po w = some q → q < 12) (hnw_ : nw_ ≤ 10) (hyo_ : ∀ w, yo_ w < 12) (hix_ : ∀ y, ix_ y ≤ 2000) (hce_ : ∀ w, ce_ w ≤ 1000000) (hsv_ : ∀ j, sv_ j ≤ 1000000) (hY_ : nY_ ≤ 12) (hbu_ : ∀ y, bu_ y ≤ 1000000000) (hwo_ : ∀ w, wo_ w ≤ 1000000) (hne_ : ∀ w q, ne_ w = some q → q < 10)  (hE : nI (wS wo ((chN (fun S => wS wo S nw) (fun S => allN (agW cs ne yo S) nw) (fun S => sumZ (cS ix yo ce sv nw S) nY) (fun S => oB bu (cS ix yo ce sv nw S) nY) (2 ^ nw - 1)).1) nw) = nI ((chN (fun S => wS wo_ S nw_) (fun S => allN (agM cl_ ne_ yo_ S) nw_) (fun S => sumZ (cS ix_ yo_ ce_ (fun a b => sv_ (10 * a + b)) nw_ S) nY_) (fun S => oB bu_ (cS ix_ yo_ ce_ (fun a b => sv_ (10 * a + b)) nw_ S) nY_) (2 ^ nw_ - 1)).2.1)) (kk : gg p l e room_1 s m #[Value.ref sb] below meth c 8 (lw_Z below #[Value.ref sb] s) (cells) (slots) (gW V (fun q => s.heap.size ≤ q) s.heap (wG V oa ad r1 r2 r3 am ou nY ix bu np st sr sx tk (rnN po yo ((chN (fun S => wS wo S nw) (fun S => allN (agW cs ne yo S) nw) (fun S => sumZ (cS ix yo ce sv nw S) nY) (fun S => oB bu (cS ix yo ce sv nw S) nY) (2 ^ nw - 1)).1) nw) sh sn yw nw yo ce wo po ne cs sv ((chN (fun S => wS wo S nw) (fun S => allN (agW cs ne yo S) nw) (fun S => sumZ (cS ix yo ce sv nw S) nY) (fun S => oB bu (cS ix yo ce sv nw S) nY) (2 ^ nw - 1)).1) (spN (fun S => wS wo S nw) (fun S => allN (agW cs ne yo S) nw) (fun S => sumZ (cS ix yo ce sv nw S) nY) (fun S => oB bu (cS ix yo ce sv nw S) nY) (cS ix yo ce sv nw) sp (2 ^ nw - 1)) rs bg dp 0 nY_ ix_ bu_ np_ st_ sr_ go_ ca_ nw_ yo_ ce_ wo_ po_ ne_ sv_ cl_ ((chN (fun S => wS wo_ S nw_) (fun S => allN (agM cl_ ne_ yo_ S) nw_) (fun S => sumZ (cS ix_ yo_ ce_ (fun a b => sv_ (10 * a + b)) nw_ S) nY_) (fun S => oB bu_ (cS ix_ yo_ ce_ (fun a b => sv_ (10 * a + b)) nw_ S) nY_) (2 ^ nw_ - 1)).1) bg_ dp_ sh_ nx_ (spM (fun S => wS wo_ S nw_) (fun S => allN (agM cl_ ne_ yo_ S) nw_) (fun S => sumZ (cS ix_ yo_ ce_ (fun a b => sv_ (10 * a + b)) nw_ S) nY_) (fun S => oB bu_ (cS ix_ yo_ ce_ (fun a b => sv_ (10 * a + b)) nw_ S) nY_) spn_ (2 ^ nw_ - 1)))) [(4, .int (nI ti)), (3, .ref oa), (2, .ref (am 0)), (1, .ref (ad 0)), (0, .ref sb)] 1527 []) : gg p l e room_1 s m #[Value.ref sb] below meth c 8 (lw_Z below #[Value.ref sb] s) cells slots (gW V (fun q => s.heap.size ≤ q) s.heap (wG V oa ad r1 r2 r3 am ou nY ix bu np st sr sx tk rn sh sn yw nw yo ce wo po ne cs sv mk sp rs bg dp th_ nY_ ix_ bu_ np_ st_ sr_ go_ ca_ nw_ yo_ ce_ wo_ po_ ne_ sv_ cl_ mk_ bg_ dp_ sh_ nx_ spn_)) [(4, .int (nI ti)), (3, .ref oa), (2, .ref (am 0)), (1, .ref (ad 0)), (0, .ref sb)] 1082 [] := by
  refine g_aload_n E d_La_law_1082 rfl 3 rfl ?_
  refine gwVi (w := wG V oa ad r1 r2 r3 am ou nY ix bu np st sr sx tk rn sh sn yw nw yo ce wo po ne cs sv mk sp rs bg dp th_ nY_ ix_ bu_ np_ st_ sr_ go_ ca_ nw_ yo_ ce_ wo_ po_ ne_ sv_ cl_ mk_ bg_ dp_ sh_ nx_ spn_) (w' := wG V oa ad r1 r2 r3 am ou nY ix bu np st sr sx tk (rnN po yo ((chN (fun S => wS wo S nw) (fun S => allN (agW cs ne yo S) nw) (fun S => sumZ (cS ix yo ce sv nw S) nY) (fun S => oB bu (cS ix yo ce sv nw S) nY) (2 ^ nw - 1)).1) nw) sh sn yw nw yo ce wo po ne cs sv ((chN (fun S => wS wo S nw) (fun S => allN (agW cs ne yo S) nw) (fun S => sumZ (cS ix yo ce sv nw S) nY) (fun S => oB bu (cS ix yo ce sv nw S) nY) (2 ^ nw - 1)).1) (spN (fun S => wS wo S nw) (fun S => allN (agW cs ne yo S) nw) (fun S => sumZ (cS ix yo ce sv nw S) nY) (fun S => oB bu (cS ix yo ce sv nw S) nY) (cS ix yo ce sv nw) sp (2 ^ nw - 1)) rs bg dp th_ nY_ ix_ bu_ np_ st_ sr_ go_ ca_ nw_ yo_ ce_ wo_ po_ ne_ sv_ cl_ mk_ bg_ dp_ sh_ nx_ spn_) (mc := 0) (ms := 0) (As := []) (rest := []) E (fun _ h => h) 1 rfl rfl (si (fi (pre := wM V am th_ nY_ ix_ bu_ np_ st_ sr_ go_ ca_ nw_ yo_ ce_ wo_ po_ ne_ sv_ cl_ mk_ bg_ dp_ sh_ nx_ spn_) (fi (pre := [(oa, aX V ou)]) (C_CY_choose l hnw hY hyY hyo hix hce hsv hbu hwo hcs hne hpo)))) (cs_La_132 E rfl rfl ⟨Nat.le_of_ble_eq_true rfl, Nat.le_of_ble_eq_true rfl⟩) rfl rfl (Nat.le_of_ble_eq_true rfl) ⟨by show _ ≤ 601024; omega, by show _ ≤ 7293000; omega⟩ d_La_law_1083 ?_
  refine g_aload_n E d_La_law_1086 rfl 2 rfl ?_
  refine gwVi (w := wG V oa ad r1 r2 r3 am ou nY ix bu np st sr sx tk (rnN po yo ((chN (fun S => wS wo S nw) (fun S => allN (agW cs ne yo S) nw) (fun S => sumZ (cS ix yo ce sv nw S) nY) (fun S => oB bu (cS ix yo ce sv nw S) nY) (2 ^ nw - 1)).1) nw) sh sn yw nw yo ce wo po ne cs sv ((chN (fun S => wS wo S nw) (fun S => allN (agW cs ne yo S) nw) (fun S => sumZ (cS ix yo ce sv nw S) nY) (fun S => oB bu (cS ix yo ce sv nw S) nY) (2 ^ nw - 1)).1) (spN (fun S => wS wo S nw) (fun S => allN (agW cs ne yo S) nw) (fun S => sumZ (cS ix yo ce sv nw S) nY) (fun S => oB bu (cS ix yo ce sv nw S) nY) (cS ix yo ce sv nw) sp (2 ^ nw - 1)) rs bg dp th_ nY_ ix_ bu_ np_ st_ sr_ go_ ca_ nw_ yo_ ce_ wo_ po_ ne_ sv_ cl_ mk_ bg_ dp_ sh_ nx_ spn_) (w' := wG V oa ad r1 r2 r3 am ou nY ix bu np st sr sx tk (rnN po yo ((chN (fun S => wS wo S nw) (fun S => allN (agW cs ne yo S) nw) (fun S => sumZ (cS ix yo ce sv nw S) nY) (fun S => oB bu (cS ix yo ce sv nw S) nY) (2 ^ nw - 1)).1) nw) sh sn yw nw yo ce wo po ne cs sv ((chN (fun S => wS wo S nw) (fun S => allN (agW cs ne yo S) nw) (fun S => sumZ (cS ix yo ce sv nw S) nY) (fun S => oB bu (cS ix yo ce sv nw S) nY) (2 ^ nw - 1)).1) (spN (fun S => wS wo S nw) (fun S => allN (agW cs ne yo S) nw) (fun S => sumZ (cS ix yo ce sv nw S) nY) (fun S => oB bu (cS ix yo ce sv nw S) nY) (cS ix yo ce sv nw) sp (2 ^ nw - 1)) rs bg dp 0 nY_ ix_ bu_ np_ st_ sr_ go_ ca_ nw_ yo_ ce_ wo_ po_ ne_ sv_ cl_ ((chN (fun S => wS wo_ S nw_) (fun S => allN (agM cl_ ne_ yo_ S) nw_) (fun S => sumZ (cS ix_ yo_ ce_ (fun a b => sv_ (10 * a + b)) nw_ S) nY_) (fun S => oB bu_ (cS ix_ yo_ ce_ (fun a b => sv_ (10 * a + b)) nw_ S) nY_) (2 ^ nw_ - 1)).1) bg_ dp_ sh_ nx_ (spM (fun S => wS wo_ S nw_) (fun S => allN (agM cl_ ne_ yo_ S) nw_) (fun S => sumZ (cS ix_ yo_ ce_ (fun a b => sv_ (10 * a + b)) nw_ S) nY_) (fun S => oB bu_ (cS ix_ yo_ ce_ (fun a b => sv_ (10 * a + b)) nw_ S) nY_) spn_ (2 ^ nw_ - 1))) (mc := 0) (ms := 0) (As := []) (rest := [.int (nI (wS wo ((chN (fun S => wS wo S nw) (fun S => allN (agW cs ne yo S) nw) (fun S => sumZ (cS ix yo ce sv nw S) nY) (fun S => oB bu (cS ix yo ce sv nw S) nY) (2 ^ nw - 1)).1) nw))]) E (fun _ h => h) 57 wG_am rfl (fi (pre := (oa, aX V ou) :: wC V ad r1 r2 r3 nY ix bu np st sr sx tk (rnN po yo ((chN (fun S => wS wo S nw) (fun S => allN (agW cs ne yo S) nw) (fun S => sumZ (cS ix yo ce sv nw S) nY) (fun S => oB bu (cS ix yo ce sv nw S) nY) (2 ^ nw - 1)).1) nw) sh sn yw nw yo ce wo po ne cs sv ((chN (fun S => wS wo S nw) (fun S => allN (agW cs ne yo S) nw) (fun S => sumZ (cS ix yo ce sv nw S) nY) (fun S => oB bu (cS ix yo ce sv nw S) nY) (2 ^ nw - 1)).1) (spN (fun S => wS wo S nw) (fun S => allN (agW cs ne yo S) nw) (fun S => sumZ (cS ix yo ce sv nw S) nY) (fun S => oB bu (cS ix yo ce sv nw S) nY) (cS ix yo ce sv nw) sp (2 ^ nw - 1)) rs bg dp) (C_Mo_choose l hnw_ hyo_ hix_ hce_ hsv_ hY_ hbu_ hwo_ hne_)) (cs_La_135 E rfl rfl ⟨Nat.le_of_ble_eq_true rfl, Nat.le_of_ble_eq_true rfl⟩) rfl rfl (Nat.le_of_ble_eq_true rfl) ⟨by show _ ≤ 601024; omega, by show _ ≤ 7293000; omega⟩ d_La_law_1087 ?_
  refine g_icmp_eq E 1527 d_La_law_1090 (by decide) (fun h1 => ?_) (fun h1 => ?_)
  · refine g_lv [0, 1, 2, 3, 4] rfl ?_
    exact kk
  · exact absurd hE h1

set_option maxHeartbeats 4000000 in
set_option maxRecDepth 100000 in
theorem K_chosen {p : Program} {l : Launch} {e : Env} {s : State} {m : MethodId} {below : List Frame} {meth : Method} {c : Code} {V : gV} {sb LL ti cells slots : Nat} {xs : Nat → Int32} {oa : Nat} {am : Nat → Nat} {ou : Int64} {ad r1 r2 r3 : Nat → Nat} {nY : Nat} {ix bu : Nat → Nat} {np : Nat} {st sr : Nat → Nat} {sx tk : Nat → Nat → Nat} {rn sh sn : Nat → Nat} {yw nw : Nat} {yo ce wo : Nat → Nat} {po ne : Nat → Option Nat} {cs : Nat → Nat} {sv : Nat → Nat → Nat} {mk : Nat} {sp rs : Nat → Int} {bg dp : Nat} {th_ nY_ : Nat} {ix_ bu_ : Nat → Nat} {np_ : Nat} {st_ sr_ go_ ca_ : Nat → Nat} {nw_ : Nat} {yo_ ce_ wo_ : Nat → Nat} {po_ ne_ : Nat → Option Nat} {sv_ : Nat → Nat} {cl_ : Nat → Bool} {mk_ bg_ dp_ : Nat} {sh_ nx_ : Nat → Nat} {spn_ : Int} (E : gE p s m #[Value.ref sb] c code 8 R_La V) (hX : va_X sb LL xs s s.heap) (hbl : sb < s.heap.size) (hXJ : XJ s) (hfl : l.flags = flags0) (hL : LL ≤ 2561) (hiL : ti + 5 ≤ LL) (hcl : cells + 1 ≤ 601024) (hsl : slots + 6 ≤ 7293000) (a : Nat) (ha : a < nw) (hnw : nw ≤ 10) (hmk : mk < 1024) (ha_ : a < nw_) (hnw_ : nw_ ≤ 10) (hmk_ : mk_ < 1024) (hx1 : xs (ti + 1) = nI a) (hE : mk.testBit a = mk_.testBit a) (kk : gg p l e room_1 s m #[Value.ref sb] below meth c 8 (lw_Z below #[Value.ref sb] s) (cells) (slots) (gW V (fun q => s.heap.size ≤ q) s.heap (wG V oa ad r1 r2 r3 am (if mk.testBit a then lN 1 else lN 0) nY ix bu np st sr sx tk rn sh sn yw nw yo ce wo po ne cs sv mk sp rs bg dp 0 nY_ ix_ bu_ np_ st_ sr_ go_ ca_ nw_ yo_ ce_ wo_ po_ ne_ sv_ cl_ mk_ bg_ dp_ sh_ nx_ spn_)) [(4, .int (nI ti)), (3, .ref oa), (2, .ref (am 0)), (1, .ref (ad 0)), (0, .ref sb)] 1527 []) : gg p l e room_1 s m #[Value.ref sb] below meth c 8 (lw_Z below #[Value.ref sb] s) cells slots (gW V (fun q => s.heap.size ≤ q) s.heap (wG V oa ad r1 r2 r3 am ou nY ix bu np st sr sx tk rn sh sn yw nw yo ce wo po ne cs sv mk sp rs bg dp th_ nY_ ix_ bu_ np_ st_ sr_ go_ ca_ nw_ yo_ ce_ wo_ po_ ne_ sv_ cl_ mk_ bg_ dp_ sh_ nx_ spn_)) [(4, .int (nI ti)), (3, .ref oa), (2, .ref (am 0)), (1, .ref (ad 0)), (0, .ref sb)] 1095 [] := by
  refine g_aload_n E d_La_law_1095 rfl 3 rfl ?_
  refine g_aload_n E d_La_law_1096 rfl 4 rfl ?_
  refine g_iload E d_La_law_1097 0 rfl ?_
  refine g_iconst (v := nI 1) E d_La_law_1099 (by decide) ?_
  refine g_iadd E d_La_law_1100 ?_
  refine g_topi (nI_add _ _) ?_
  refine g_scr E hX hbl (by omega) (by omega) d_La_law_1101 ?_
  refine g_topi hx1 ?_
  refine g_aload_n E d_La_law_1102 rfl 1 rfl ?_
  refine gwLi (w := wG V oa ad r1 r2 r3 am ou nY ix bu np st sr sx tk rn sh sn yw nw yo ce wo po ne cs sv mk sp rs bg dp th_ nY_ ix_ bu_ np_ st_ sr_ go_ ca_ nw_ yo_ ce_ wo_ po_ ne_ sv_ cl_ mk_ bg_ dp_ sh_ nx_ spn_) (w' := wG V oa ad r1 r2 r3 am (if mk.testBit a then lN 1 else lN 0) nY ix bu np st sr sx tk rn sh sn yw nw yo ce wo po ne cs sv mk sp rs bg dp th_ nY_ ix_ bu_ np_ st_ sr_ go_ ca_ nw_ yo_ ce_ wo_ po_ ne_ sv_ cl_ mk_ bg_ dp_ sh_ nx_ spn_) (As := [.ref (ad 0), .int (nI a), .ref oa]) (rest := []) E (fun _ h => h) (si (fi (pre := wM V am th_ nY_ ix_ bu_ np_ st_ sr_ go_ ca_ nw_ yo_ ce_ wo_ po_ ne_ sv_ cl_ mk_ bg_ dp_ sh_ nx_ spn_) (L_CY_chosen l (oa := oa) (ou := ou) a ha hnw hmk))) kc_La_chosen kl_La_136 ks_La_chosen kn_La kd_La_chosen rfl rfl ⟨Nat.le_of_ble_eq_true rfl, Nat.le_of_ble_eq_true rfl⟩ rfl rfl (Nat.le_of_ble_eq_true rfl) ⟨by show _ ≤ 601024; omega, by show _ ≤ 7293000; omega⟩ d_La_law_1103 ?_
  refine g_istore (lv' := [(5, .int (nI 0)), (4, .int (nI ti)), (3, .ref oa), (2, .ref (am 0)), (1, .ref (ad 0)), (0, .ref sb)]) E d_La_law_1106 (by decide) rfl ?_
  refine g_aload_n E d_La_law_1108 rfl 3 rfl ?_
  refine g_aload_n E d_La_law_1109 rfl 5 rfl ?_
  refine g_iload E d_La_law_1110 1 rfl ?_
  refine g_iconst (v := nI 1) E d_La_law_1112 (by decide) ?_
  refine g_iadd E d_La_law_1113 ?_
  refine g_topi (nI_add _ _) ?_
  refine g_scr E hX hbl (by omega) (by omega) d_La_law_1114 ?_
  refine g_topi hx1 ?_
  refine gwVi (w := wG V oa ad r1 r2 r3 am (if mk.testBit a then lN 1 else lN 0) nY ix bu np st sr sx tk rn sh sn yw nw yo ce wo po ne cs sv mk sp rs bg dp th_ nY_ ix_ bu_ np_ st_ sr_ go_ ca_ nw_ yo_ ce_ wo_ po_ ne_ sv_ cl_ mk_ bg_ dp_ sh_ nx_ spn_) (w' := wG V oa ad r1 r2 r3 am (if mk.testBit a then lN 1 else lN 0) nY ix bu np st sr sx tk rn sh sn yw nw yo ce wo po ne cs sv mk sp rs bg dp 0 nY_ ix_ bu_ np_ st_ sr_ go_ ca_ nw_ yo_ ce_ wo_ po_ ne_ sv_ cl_ mk_ bg_ dp_ sh_ nx_ spn_) (mc := 0) (ms := 0) (As := [.int (nI a)]) (rest := []) E (fun _ h => h) 57 wG_am rfl (fi (pre := (oa, aX V (if mk.testBit a then lN 1 else lN 0)) :: wC V ad r1 r2 r3 nY ix bu np st sr sx tk rn sh sn yw nw yo ce wo po ne cs sv mk sp rs bg dp) (C_Mo_chosen l a ha_ hnw_ hmk_)) (cs_La_139 E rfl rfl ⟨Nat.le_of_ble_eq_true rfl, Nat.le_of_ble_eq_true rfl⟩) rfl rfl (Nat.le_of_ble_eq_true rfl) ⟨by show _ ≤ 601024; omega, by show _ ≤ 7293000; omega⟩ d_La_law_1115 ?_
  refine g_istore (lv' := [(6, .int (bI (mk_.testBit a))), (5, .int (nI 0)), (4, .int (nI ti)), (3, .ref oa), (2, .ref (am 0)), (1, .ref (ad 0)), (0, .ref sb)]) E d_La_law_1118 (by decide) rfl ?_
  refine g_aload_n E d_La_law_1120 rfl 4 rfl ?_
  refine gpVi (As := []) (rest := []) E gO_w 57 wG_am rfl (fpi0 (pre := (oa, aX V (if mk.testBit a then lN 1 else lN 0)) :: wC V ad r1 r2 r3 nY ix bu np st sr sx tk rn sh sn yw nw yo ce wo po ne cs sv mk sp rs bg dp) (C_Mo_thrown l)) (cs_La_92 E rfl rfl ⟨Nat.le_of_ble_eq_true rfl, Nat.le_of_ble_eq_true rfl⟩) rfl rfl (Nat.le_of_ble_eq_true rfl) ⟨by show _ ≤ 601024; omega, by show _ ≤ 7293000; omega⟩ d_La_law_1121 ?_
  refine g_iload E d_La_law_1124 1 rfl ?_
  refine g_ncmp_eq E 1131 d_La_law_1126 (by decide) (by omega) (by omega) (fun h1 => ?_) (fun h1 => ?_)
  · refine g_iload E d_La_law_1131 1 rfl ?_
    refine g_nif_ne E 1155 d_La_law_1133 (by decide) (by decide) (fun h2 => absurd h2 (by decide)) (fun _ => ?_)
    refine g_aload_n E d_La_law_1136 rfl 3 rfl ?_
    refine g_iconst (v := nI 0) E d_La_law_1137 (by decide) ?_
    refine g_ldX E gO_w 0 rfl d_La_law_1138 ?_
    refine g_iload E d_La_law_1139 0 rfl ?_
    refine g_bif_eq E 1148 d_La_law_1141 (by decide) (fun h3 => ?_) (fun h3 => ?_)
    · refine g_lconst (v := lN 0) E d_La_law_1148 (by decide) ?_
      refine g_lcmp E d_La_law_1149 ?_
      refine g_if_eq E 1155 d_La_law_1150 (by decide) (fun h4 => ?_) (fun h4 => ?_)
      · refine g_goto E 1527 d_La_law_1155 (by decide) ?_
        refine g_lv [2, 3, 4, 5, 6] rfl ?_
        exact kk
      · exact absurd (lg_eq.mpr (by rw [hE]; simp [h3])) h4
    · refine g_lconst (v := lN 1) E d_La_law_1144 (by decide) ?_
      refine g_goto E 1149 d_La_law_1145 (by decide) ?_
      refine g_lcmp E d_La_law_1149 ?_
      refine g_if_eq E 1155 d_La_law_1150 (by decide) (fun h5 => ?_) (fun h5 => ?_)
      · refine g_goto E 1527 d_La_law_1155 (by decide) ?_
        refine g_lv [2, 3, 4, 5, 6] rfl ?_
        exact kk
      · exact absurd (lg_eq.mpr (by rw [hE]; simp [h3])) h5
  · exact absurd rfl h1

set_option maxHeartbeats 4000000 in
set_option maxRecDepth 100000 in
theorem K_costs {p : Program} {l : Launch} {e : Env} {s : State} {m : MethodId} {below : List Frame} {meth : Method} {c : Code} {V : gV} {sb LL ti cells slots : Nat} {xs : Nat → Int32} {oa : Nat} {am : Nat → Nat} {ou : Int64} {ad r1 r2 r3 : Nat → Nat} {nY : Nat} {ix bu : Nat → Nat} {np : Nat} {st sr : Nat → Nat} {sx tk : Nat → Nat → Nat} {rn sh sn : Nat → Nat} {yw nw : Nat} {yo ce wo : Nat → Nat} {po ne : Nat → Option Nat} {cs : Nat → Nat} {sv : Nat → Nat → Nat} {mk : Nat} {sp rs : Nat → Int} {bg dp : Nat} {th_ nY_ : Nat} {ix_ bu_ : Nat → Nat} {np_ : Nat} {st_ sr_ go_ ca_ : Nat → Nat} {nw_ : Nat} {yo_ ce_ wo_ : Nat → Nat} {po_ ne_ : Nat → Option Nat} {sv_ : Nat → Nat} {cl_ : Nat → Bool} {mk_ bg_ dp_ : Nat} {sh_ nx_ : Nat → Nat} {spn_ : Int} (E : gE p s m #[Value.ref sb] c code 8 R_La V) (hX : va_X sb LL xs s s.heap) (hbl : sb < s.heap.size) (hXJ : XJ s) (hfl : l.flags = flags0) (hL : LL ≤ 2561) (hiL : ti + 5 ≤ LL) (hcl : cells + 1 ≤ 601024) (hsl : slots + 6 ≤ 7293000) (y : Nat) (hy : y < nY) (hmk : mk < 1024) (hnw : nw ≤ 10) (hY : nY ≤ 12) (hyY : ∀ w, yo w < nY) (hyo : ∀ w, yo w < 12) (hix : ∀ y, ix y ≤ 2000) (hce : ∀ w, ce w ≤ 1000000) (hsv : ∀ a b, sv a b ≤ 1000000) (hy_ : y < nY_) (hY_ : nY_ ≤ 12) (hmk_ : mk_ < 1024) (hnw_ : nw_ ≤ 10) (hyo_ : ∀ w, yo_ w < 12) (hix_ : ∀ y, ix_ y ≤ 2000) (hce_ : ∀ w, ce_ w ≤ 1000000) (hsv_ : ∀ j, sv_ j ≤ 1000000) (hx1 : xs (ti + 1) = nI y) (hE : iI (cS ix yo ce sv nw mk y) = iI (cS ix_ yo_ ce_ (fun a b => sv_ (10 * a + b)) nw_ mk_ y)) (kk : gg p l e room_1 s m #[Value.ref sb] below meth c 8 (lw_Z below #[Value.ref sb] s) (cells) (slots) (gW V (fun q => s.heap.size ≤ q) s.heap (wG V oa ad r1 r2 r3 am ((iI (cS ix yo ce sv nw mk y)).toInt64) nY ix bu np st sr sx tk rn sh sn yw nw yo ce wo po ne cs sv mk (cS ix yo ce sv nw mk) rs bg dp 0 nY_ ix_ bu_ np_ st_ sr_ go_ ca_ nw_ yo_ ce_ wo_ po_ ne_ sv_ cl_ mk_ bg_ dp_ sh_ nx_ spn_)) [(4, .int (nI ti)), (3, .ref oa), (2, .ref (am 0)), (1, .ref (ad 0)), (0, .ref sb)] 1527 []) : gg p l e room_1 s m #[Value.ref sb] below meth c 8 (lw_Z below #[Value.ref sb] s) cells slots (gW V (fun q => s.heap.size ≤ q) s.heap (wG V oa ad r1 r2 r3 am ou nY ix bu np st sr sx tk rn sh sn yw nw yo ce wo po ne cs sv mk sp rs bg dp th_ nY_ ix_ bu_ np_ st_ sr_ go_ ca_ nw_ yo_ ce_ wo_ po_ ne_ sv_ cl_ mk_ bg_ dp_ sh_ nx_ spn_)) [(4, .int (nI ti)), (3, .ref oa), (2, .ref (am 0)), (1, .ref (ad 0)), (0, .ref sb)] 1158 [] := by
  refine g_aload_n E d_La_law_1158 rfl 3 rfl ?_
  refine g_aload_n E d_La_law_1159 rfl 4 rfl ?_
  refine g_iload E d_La_law_1160 0 rfl ?_
  refine g_iconst (v := nI 1) E d_La_law_1162 (by decide) ?_
  refine g_iadd E d_La_law_1163 ?_
  refine g_topi (nI_add _ _) ?_
  refine g_scr E hX hbl (by omega) (by omega) d_La_law_1164 ?_
  refine g_topi hx1 ?_
  refine g_aload_n E d_La_law_1165 rfl 1 rfl ?_
  refine gwLi (w := wG V oa ad r1 r2 r3 am ou nY ix bu np st sr sx tk rn sh sn yw nw yo ce wo po ne cs sv mk sp rs bg dp th_ nY_ ix_ bu_ np_ st_ sr_ go_ ca_ nw_ yo_ ce_ wo_ po_ ne_ sv_ cl_ mk_ bg_ dp_ sh_ nx_ spn_) (w' := wG V oa ad r1 r2 r3 am ((iI (cS ix yo ce sv nw mk y)).toInt64) nY ix bu np st sr sx tk rn sh sn yw nw yo ce wo po ne cs sv mk (cS ix yo ce sv nw mk) rs bg dp th_ nY_ ix_ bu_ np_ st_ sr_ go_ ca_ nw_ yo_ ce_ wo_ po_ ne_ sv_ cl_ mk_ bg_ dp_ sh_ nx_ spn_) (As := [.ref (ad 0), .int (nI y), .ref oa]) (rest := []) E (fun _ h => h) (si (fi (pre := wM V am th_ nY_ ix_ bu_ np_ st_ sr_ go_ ca_ nw_ yo_ ce_ wo_ po_ ne_ sv_ cl_ mk_ bg_ dp_ sh_ nx_ spn_) (L_CY_costs l (oa := oa) (ou := ou) y hy hmk hnw hY hyY hyo hix hce hsv))) kc_La_costs kl_La_140 ks_La_costs kn_La kd_La_costs rfl rfl ⟨Nat.le_of_ble_eq_true rfl, Nat.le_of_ble_eq_true rfl⟩ rfl rfl (Nat.le_of_ble_eq_true rfl) ⟨by show _ ≤ 601024; omega, by show _ ≤ 7293000; omega⟩ d_La_law_1166 ?_
  refine g_istore (lv' := [(5, .int (nI 0)), (4, .int (nI ti)), (3, .ref oa), (2, .ref (am 0)), (1, .ref (ad 0)), (0, .ref sb)]) E d_La_law_1169 (by decide) rfl ?_
  refine g_aload_n E d_La_law_1171 rfl 3 rfl ?_
  refine g_aload_n E d_La_law_1172 rfl 5 rfl ?_
  refine g_iload E d_La_law_1173 1 rfl ?_
  refine g_iconst (v := nI 1) E d_La_law_1175 (by decide) ?_
  refine g_iadd E d_La_law_1176 ?_
  refine g_topi (nI_add _ _) ?_
  refine g_scr E hX hbl (by omega) (by omega) d_La_law_1177 ?_
  refine g_topi hx1 ?_
  refine gwVi (w := wG V oa ad r1 r2 r3 am ((iI (cS ix yo ce sv nw mk y)).toInt64) nY ix bu np st sr sx tk rn sh sn yw nw yo ce wo po ne cs sv mk (cS ix yo ce sv nw mk) rs bg dp th_ nY_ ix_ bu_ np_ st_ sr_ go_ ca_ nw_ yo_ ce_ wo_ po_ ne_ sv_ cl_ mk_ bg_ dp_ sh_ nx_ spn_) (w' := wG V oa ad r1 r2 r3 am ((iI (cS ix yo ce sv nw mk y)).toInt64) nY ix bu np st sr sx tk rn sh sn yw nw yo ce wo po ne cs sv mk (cS ix yo ce sv nw mk) rs bg dp 0 nY_ ix_ bu_ np_ st_ sr_ go_ ca_ nw_ yo_ ce_ wo_ po_ ne_ sv_ cl_ mk_ bg_ dp_ sh_ nx_ spn_) (mc := 0) (ms := 0) (As := [.int (nI y)]) (rest := []) E (fun _ h => h) 57 wG_am rfl (fi (pre := (oa, aX V ((iI (cS ix yo ce sv nw mk y)).toInt64)) :: wC V ad r1 r2 r3 nY ix bu np st sr sx tk rn sh sn yw nw yo ce wo po ne cs sv mk (cS ix yo ce sv nw mk) rs bg dp) (C_Mo_costs l y hy_ hY_ hmk_ hnw_ hyo_ hix_ hce_ hsv_)) (cs_La_142 E rfl rfl ⟨Nat.le_of_ble_eq_true rfl, Nat.le_of_ble_eq_true rfl⟩) rfl rfl (Nat.le_of_ble_eq_true rfl) ⟨by show _ ≤ 601024; omega, by show _ ≤ 7293000; omega⟩ d_La_law_1178 ?_
  refine g_istore (lv' := [(6, .int (iI (cS ix_ yo_ ce_ (fun a b => sv_ (10 * a + b)) nw_ mk_ y))), (5, .int (nI 0)), (4, .int (nI ti)), (3, .ref oa), (2, .ref (am 0)), (1, .ref (ad 0)), (0, .ref sb)]) E d_La_law_1181 (by decide) rfl ?_
  refine g_aload_n E d_La_law_1183 rfl 4 rfl ?_
  refine gpVi (As := []) (rest := []) E gO_w 57 wG_am rfl (fpi0 (pre := (oa, aX V ((iI (cS ix yo ce sv nw mk y)).toInt64)) :: wC V ad r1 r2 r3 nY ix bu np st sr sx tk rn sh sn yw nw yo ce wo po ne cs sv mk (cS ix yo ce sv nw mk) rs bg dp) (C_Mo_thrown l)) (cs_La_92 E rfl rfl ⟨Nat.le_of_ble_eq_true rfl, Nat.le_of_ble_eq_true rfl⟩) rfl rfl (Nat.le_of_ble_eq_true rfl) ⟨by show _ ≤ 601024; omega, by show _ ≤ 7293000; omega⟩ d_La_law_1184 ?_
  refine g_iload E d_La_law_1187 1 rfl ?_
  refine g_ncmp_eq E 1194 d_La_law_1189 (by decide) (by omega) (by omega) (fun h1 => ?_) (fun h1 => ?_)
  · refine g_iload E d_La_law_1194 1 rfl ?_
    refine g_nif_ne E 1211 d_La_law_1196 (by decide) (by decide) (fun h2 => absurd h2 (by decide)) (fun _ => ?_)
    refine g_aload_n E d_La_law_1199 rfl 3 rfl ?_
    refine g_iconst (v := nI 0) E d_La_law_1200 (by decide) ?_
    refine g_ldX E gO_w 0 rfl d_La_law_1201 ?_
    refine g_iload E d_La_law_1202 0 rfl ?_
    refine g_i2l E d_La_law_1204 ?_
    refine g_topl rfl ?_
    refine g_lcmp E d_La_law_1205 ?_
    refine g_if_eq E 1211 d_La_law_1206 (by decide) (fun h3 => ?_) (fun h3 => ?_)
    · refine g_goto E 1527 d_La_law_1211 (by decide) ?_
      refine g_lv [2, 3, 4, 5, 6] rfl ?_
      exact kk
    · exact absurd (lg_eq.mpr (by rw [hE])) h3
  · exact absurd rfl h1

set_option maxHeartbeats 4000000 in
set_option maxRecDepth 100000 in
theorem K_lacks_y {p : Program} {l : Launch} {e : Env} {s : State} {m : MethodId} {below : List Frame} {meth : Method} {c : Code} {V : gV} {sb LL ti cells slots : Nat} {xs : Nat → Int32} {oa : Nat} {am : Nat → Nat} {ou : Int64} {ad r1 r2 r3 : Nat → Nat} {nY : Nat} {ix bu : Nat → Nat} {np : Nat} {st sr : Nat → Nat} {sx tk : Nat → Nat → Nat} {rn sh sn : Nat → Nat} {yw nw : Nat} {yo ce wo : Nat → Nat} {po ne : Nat → Option Nat} {cs : Nat → Nat} {sv : Nat → Nat → Nat} {mk : Nat} {sp rs : Nat → Int} {bg dp : Nat} {th_ nY_ : Nat} {ix_ bu_ : Nat → Nat} {np_ : Nat} {st_ sr_ go_ ca_ : Nat → Nat} {nw_ : Nat} {yo_ ce_ wo_ : Nat → Nat} {po_ ne_ : Nat → Option Nat} {sv_ : Nat → Nat} {cl_ : Nat → Bool} {mk_ bg_ dp_ : Nat} {sh_ nx_ : Nat → Nat} {spn_ : Int} (E : gE p s m #[Value.ref sb] c code 8 R_La V) (hX : va_X sb LL xs s s.heap) (hbl : sb < s.heap.size) (hXJ : XJ s) (hfl : l.flags = flags0) (hL : LL ≤ 2561) (hiL : ti + 5 ≤ LL) (hcl : cells + 1 ≤ 601024) (hsl : slots + 6 ≤ 7293000) (x : Int32) (hag : allN (agW cs ne yo (xm x nw)) nw = true) (hnw : nw ≤ 10) (hY : nY ≤ 12) (hyY : ∀ w, yo w < nY) (hyo : ∀ w, yo w < 12) (hix : ∀ y, ix y ≤ 2000) (hce : ∀ w, ce w ≤ 1000000) (hsv : ∀ a b, sv a b ≤ 1000000) (hbu : ∀ y, bu y ≤ 1000000000) (hwo : ∀ w, wo w ≤ 1000000) (hcs : ∀ w, cs w < 1024) (hne : ∀ w q, ne w = some q → q < 10) (hag_ : allN (agM cl_ ne_ yo_ (xm x nw_)) nw_ = true) (hnw_ : nw_ ≤ 10) (hyo_ : ∀ w, yo_ w < 12) (hix_ : ∀ y, ix_ y ≤ 2000) (hce_ : ∀ w, ce_ w ≤ 1000000) (hsv_ : ∀ j, sv_ j ≤ 1000000) (hY_ : nY_ ≤ 12) (hbu_ : ∀ y, bu_ y ≤ 1000000000) (hwo_ : ∀ w, wo_ w ≤ 1000000) (hne_ : ∀ w q, ne_ w = some q → q < 10) (hx1 : xs (ti + 1) = x) (hE : iI (oB bu (cS ix yo ce sv nw (xm x nw)) nY) = iI (oB bu_ (cS ix_ yo_ ce_ (fun a b => sv_ (10 * a + b)) nw_ (xm x nw_)) nY_)) (kk : gg p l e room_1 s m #[Value.ref sb] below meth c 8 (lw_Z below #[Value.ref sb] s) (cells) (slots) (gW V (fun q => s.heap.size ≤ q) s.heap (wG V oa ad r1 r2 r3 am ou nY ix bu np st sr sx tk rn sh sn yw nw yo ce wo po ne cs sv mk (cS ix yo ce sv nw (xm x nw)) rs bg dp 0 nY_ ix_ bu_ np_ st_ sr_ go_ ca_ nw_ yo_ ce_ wo_ po_ ne_ sv_ cl_ mk_ bg_ dp_ sh_ nx_ (sumZ (cS ix_ yo_ ce_ (fun a b => sv_ (10 * a + b)) nw_ (xm x nw_)) nY_))) [(4, .int (nI ti)), (3, .ref oa), (2, .ref (am 0)), (1, .ref (ad 0)), (0, .ref sb)] 1527 []) : gg p l e room_1 s m #[Value.ref sb] below meth c 8 (lw_Z below #[Value.ref sb] s) cells slots (gW V (fun q => s.heap.size ≤ q) s.heap (wG V oa ad r1 r2 r3 am ou nY ix bu np st sr sx tk rn sh sn yw nw yo ce wo po ne cs sv mk sp rs bg dp th_ nY_ ix_ bu_ np_ st_ sr_ go_ ca_ nw_ yo_ ce_ wo_ po_ ne_ sv_ cl_ mk_ bg_ dp_ sh_ nx_ spn_)) [(4, .int (nI ti)), (3, .ref oa), (2, .ref (am 0)), (1, .ref (ad 0)), (0, .ref sb)] 1214 [] := by
  refine g_aload_n E d_La_law_1214 rfl 3 rfl ?_
  refine g_aload_n E d_La_law_1215 rfl 4 rfl ?_
  refine g_iload E d_La_law_1216 0 rfl ?_
  refine g_iconst (v := nI 1) E d_La_law_1218 (by decide) ?_
  refine g_iadd E d_La_law_1219 ?_
  refine g_topi (nI_add _ _) ?_
  refine g_scr E hX hbl (by omega) (by omega) d_La_law_1220 ?_
  refine g_topi hx1 ?_
  refine gwVi (w := wG V oa ad r1 r2 r3 am ou nY ix bu np st sr sx tk rn sh sn yw nw yo ce wo po ne cs sv mk sp rs bg dp th_ nY_ ix_ bu_ np_ st_ sr_ go_ ca_ nw_ yo_ ce_ wo_ po_ ne_ sv_ cl_ mk_ bg_ dp_ sh_ nx_ spn_) (w' := wG V oa ad r1 r2 r3 am ou nY ix bu np st sr sx tk rn sh sn yw nw yo ce wo po ne cs sv mk (cS ix yo ce sv nw (xm x nw)) rs bg dp th_ nY_ ix_ bu_ np_ st_ sr_ go_ ca_ nw_ yo_ ce_ wo_ po_ ne_ sv_ cl_ mk_ bg_ dp_ sh_ nx_ spn_) (mc := 0) (ms := 0) (As := [.int x]) (rest := []) E (fun _ h => h) 1 rfl rfl (si (fi (pre := wM V am th_ nY_ ix_ bu_ np_ st_ sr_ go_ ca_ nw_ yo_ ce_ wo_ po_ ne_ sv_ cl_ mk_ bg_ dp_ sh_ nx_ spn_) (fi (pre := [(oa, aX V ou)]) (C_CY_lacks_y l x hag hnw hY hyY hyo hix hce hsv hbu hwo hcs hne)))) (cs_La_143 E rfl rfl ⟨Nat.le_of_ble_eq_true rfl, Nat.le_of_ble_eq_true rfl⟩) rfl rfl (Nat.le_of_ble_eq_true rfl) ⟨by show _ ≤ 601024; omega, by show _ ≤ 7293000; omega⟩ d_La_law_1221 ?_
  refine g_aload_n E d_La_law_1224 rfl 2 rfl ?_
  refine g_aload_n E d_La_law_1225 rfl 4 rfl ?_
  refine g_iload E d_La_law_1226 0 rfl ?_
  refine g_iconst (v := nI 1) E d_La_law_1228 (by decide) ?_
  refine g_iadd E d_La_law_1229 ?_
  refine g_topi (nI_add _ _) ?_
  refine g_scr E hX hbl (by omega) (by omega) d_La_law_1230 ?_
  refine g_topi hx1 ?_
  refine gwVi (w := wG V oa ad r1 r2 r3 am ou nY ix bu np st sr sx tk rn sh sn yw nw yo ce wo po ne cs sv mk (cS ix yo ce sv nw (xm x nw)) rs bg dp th_ nY_ ix_ bu_ np_ st_ sr_ go_ ca_ nw_ yo_ ce_ wo_ po_ ne_ sv_ cl_ mk_ bg_ dp_ sh_ nx_ spn_) (w' := wG V oa ad r1 r2 r3 am ou nY ix bu np st sr sx tk rn sh sn yw nw yo ce wo po ne cs sv mk (cS ix yo ce sv nw (xm x nw)) rs bg dp 0 nY_ ix_ bu_ np_ st_ sr_ go_ ca_ nw_ yo_ ce_ wo_ po_ ne_ sv_ cl_ mk_ bg_ dp_ sh_ nx_ (sumZ (cS ix_ yo_ ce_ (fun a b => sv_ (10 * a + b)) nw_ (xm x nw_)) nY_)) (mc := 0) (ms := 0) (As := [.int x]) (rest := [.int (iI (oB bu (cS ix yo ce sv nw (xm x nw)) nY))]) E (fun _ h => h) 57 wG_am rfl (fi (pre := (oa, aX V ou) :: wC V ad r1 r2 r3 nY ix bu np st sr sx tk rn sh sn yw nw yo ce wo po ne cs sv mk (cS ix yo ce sv nw (xm x nw)) rs bg dp) (C_Mo_lacks_y l x hag_ hnw_ hyo_ hix_ hce_ hsv_ hY_ hbu_ hwo_ hne_)) (cs_La_146 E rfl rfl ⟨Nat.le_of_ble_eq_true rfl, Nat.le_of_ble_eq_true rfl⟩) rfl rfl (Nat.le_of_ble_eq_true rfl) ⟨by show _ ≤ 601024; omega, by show _ ≤ 7293000; omega⟩ d_La_law_1231 ?_
  refine g_icmp_eq E 1527 d_La_law_1234 (by decide) (fun h1 => ?_) (fun h1 => ?_)
  · refine g_lv [0, 1, 2, 3, 4] rfl ?_
    exact kk
  · exact absurd hE h1

set_option maxHeartbeats 4000000 in
set_option maxRecDepth 100000 in
theorem K_lacks_n {p : Program} {l : Launch} {e : Env} {s : State} {m : MethodId} {below : List Frame} {meth : Method} {c : Code} {V : gV} {sb LL ti cells slots : Nat} {xs : Nat → Int32} {oa : Nat} {am : Nat → Nat} {ou : Int64} {ad r1 r2 r3 : Nat → Nat} {nY : Nat} {ix bu : Nat → Nat} {np : Nat} {st sr : Nat → Nat} {sx tk : Nat → Nat → Nat} {rn sh sn : Nat → Nat} {yw nw : Nat} {yo ce wo : Nat → Nat} {po ne : Nat → Option Nat} {cs : Nat → Nat} {sv : Nat → Nat → Nat} {mk : Nat} {sp rs : Nat → Int} {bg dp : Nat} {th_ nY_ : Nat} {ix_ bu_ : Nat → Nat} {np_ : Nat} {st_ sr_ go_ ca_ : Nat → Nat} {nw_ : Nat} {yo_ ce_ wo_ : Nat → Nat} {po_ ne_ : Nat → Option Nat} {sv_ : Nat → Nat} {cl_ : Nat → Bool} {mk_ bg_ dp_ : Nat} {sh_ nx_ : Nat → Nat} {spn_ : Int} (E : gE p s m #[Value.ref sb] c code 8 R_La V) (hX : va_X sb LL xs s s.heap) (hbl : sb < s.heap.size) (hXJ : XJ s) (hfl : l.flags = flags0) (hL : LL ≤ 2561) (hiL : ti + 5 ≤ LL) (hcl : cells + 1 ≤ 601024) (hsl : slots + 6 ≤ 7293000) (x : Int32) (hag : allN (agW cs ne yo (xm x nw)) nw = false) (hnw : nw ≤ 10) (hY : nY ≤ 12) (hyY : ∀ w, yo w < nY) (hyo : ∀ w, yo w < 12) (hix : ∀ y, ix y ≤ 2000) (hce : ∀ w, ce w ≤ 1000000) (hsv : ∀ a b, sv a b ≤ 1000000) (hbu : ∀ y, bu y ≤ 1000000000) (hwo : ∀ w, wo w ≤ 1000000) (hcs : ∀ w, cs w < 1024) (hne : ∀ w q, ne w = some q → q < 10) (hag_ : allN (agM cl_ ne_ yo_ (xm x nw_)) nw_ = false) (hnw_ : nw_ ≤ 10) (hyo_ : ∀ w, yo_ w < 12) (hix_ : ∀ y, ix_ y ≤ 2000) (hce_ : ∀ w, ce_ w ≤ 1000000) (hsv_ : ∀ j, sv_ j ≤ 1000000) (hY_ : nY_ ≤ 12) (hbu_ : ∀ y, bu_ y ≤ 1000000000) (hwo_ : ∀ w, wo_ w ≤ 1000000) (hne_ : ∀ w q, ne_ w = some q → q < 10) (hx1 : xs (ti + 1) = x) (hE : oN none = oN none) (kk : gg p l e room_1 s m #[Value.ref sb] below meth c 8 (lw_Z below #[Value.ref sb] s) (cells) (slots) (gW V (fun q => s.heap.size ≤ q) s.heap (wG V oa ad r1 r2 r3 am ou nY ix bu np st sr sx tk rn sh sn yw nw yo ce wo po ne cs sv mk sp rs bg dp 0 nY_ ix_ bu_ np_ st_ sr_ go_ ca_ nw_ yo_ ce_ wo_ po_ ne_ sv_ cl_ mk_ bg_ dp_ sh_ nx_ spn_)) [(4, .int (nI ti)), (3, .ref oa), (2, .ref (am 0)), (1, .ref (ad 0)), (0, .ref sb)] 1527 []) : gg p l e room_1 s m #[Value.ref sb] below meth c 8 (lw_Z below #[Value.ref sb] s) cells slots (gW V (fun q => s.heap.size ≤ q) s.heap (wG V oa ad r1 r2 r3 am ou nY ix bu np st sr sx tk rn sh sn yw nw yo ce wo po ne cs sv mk sp rs bg dp th_ nY_ ix_ bu_ np_ st_ sr_ go_ ca_ nw_ yo_ ce_ wo_ po_ ne_ sv_ cl_ mk_ bg_ dp_ sh_ nx_ spn_)) [(4, .int (nI ti)), (3, .ref oa), (2, .ref (am 0)), (1, .ref (ad 0)), (0, .ref sb)] 1214 [] := by
  refine g_aload_n E d_La_law_1214 rfl 3 rfl ?_
  refine g_aload_n E d_La_law_1215 rfl 4 rfl ?_
  refine g_iload E d_La_law_1216 0 rfl ?_
  refine g_iconst (v := nI 1) E d_La_law_1218 (by decide) ?_
  refine g_iadd E d_La_law_1219 ?_
  refine g_topi (nI_add _ _) ?_
  refine g_scr E hX hbl (by omega) (by omega) d_La_law_1220 ?_
  refine g_topi hx1 ?_
  refine gwVi (w := wG V oa ad r1 r2 r3 am ou nY ix bu np st sr sx tk rn sh sn yw nw yo ce wo po ne cs sv mk sp rs bg dp th_ nY_ ix_ bu_ np_ st_ sr_ go_ ca_ nw_ yo_ ce_ wo_ po_ ne_ sv_ cl_ mk_ bg_ dp_ sh_ nx_ spn_) (w' := wG V oa ad r1 r2 r3 am ou nY ix bu np st sr sx tk rn sh sn yw nw yo ce wo po ne cs sv mk sp rs bg dp th_ nY_ ix_ bu_ np_ st_ sr_ go_ ca_ nw_ yo_ ce_ wo_ po_ ne_ sv_ cl_ mk_ bg_ dp_ sh_ nx_ spn_) (mc := 0) (ms := 0) (As := [.int x]) (rest := []) E (fun _ h => h) 1 rfl rfl (si (fi (pre := wM V am th_ nY_ ix_ bu_ np_ st_ sr_ go_ ca_ nw_ yo_ ce_ wo_ po_ ne_ sv_ cl_ mk_ bg_ dp_ sh_ nx_ spn_) (fi (pre := [(oa, aX V ou)]) (C_CY_lacks_n l x hag hnw hY hyY hyo hix hce hsv hbu hwo hcs hne)))) (cs_La_143 E rfl rfl ⟨Nat.le_of_ble_eq_true rfl, Nat.le_of_ble_eq_true rfl⟩) rfl rfl (Nat.le_of_ble_eq_true rfl) ⟨by show _ ≤ 601024; omega, by show _ ≤ 7293000; omega⟩ d_La_law_1221 ?_
  refine g_aload_n E d_La_law_1224 rfl 2 rfl ?_
  refine g_aload_n E d_La_law_1225 rfl 4 rfl ?_
  refine g_iload E d_La_law_1226 0 rfl ?_
  refine g_iconst (v := nI 1) E d_La_law_1228 (by decide) ?_
  refine g_iadd E d_La_law_1229 ?_
  refine g_topi (nI_add _ _) ?_
  refine g_scr E hX hbl (by omega) (by omega) d_La_law_1230 ?_
  refine g_topi hx1 ?_
  refine gwVi (w := wG V oa ad r1 r2 r3 am ou nY ix bu np st sr sx tk rn sh sn yw nw yo ce wo po ne cs sv mk sp rs bg dp th_ nY_ ix_ bu_ np_ st_ sr_ go_ ca_ nw_ yo_ ce_ wo_ po_ ne_ sv_ cl_ mk_ bg_ dp_ sh_ nx_ spn_) (w' := wG V oa ad r1 r2 r3 am ou nY ix bu np st sr sx tk rn sh sn yw nw yo ce wo po ne cs sv mk sp rs bg dp 0 nY_ ix_ bu_ np_ st_ sr_ go_ ca_ nw_ yo_ ce_ wo_ po_ ne_ sv_ cl_ mk_ bg_ dp_ sh_ nx_ spn_) (mc := 0) (ms := 0) (As := [.int x]) (rest := [.int (oN none)]) E (fun _ h => h) 57 wG_am rfl (fi (pre := (oa, aX V ou) :: wC V ad r1 r2 r3 nY ix bu np st sr sx tk rn sh sn yw nw yo ce wo po ne cs sv mk sp rs bg dp) (C_Mo_lacks_n l x hag_ hnw_ hyo_ hix_ hce_ hsv_ hY_ hbu_ hwo_ hne_)) (cs_La_146 E rfl rfl ⟨Nat.le_of_ble_eq_true rfl, Nat.le_of_ble_eq_true rfl⟩) rfl rfl (Nat.le_of_ble_eq_true rfl) ⟨by show _ ≤ 601024; omega, by show _ ≤ 7293000; omega⟩ d_La_law_1231 ?_
  refine g_icmp_eq E 1527 d_La_law_1234 (by decide) (fun h1 => ?_) (fun h1 => ?_)
  · refine g_lv [0, 1, 2, 3, 4] rfl ?_
    exact kk
  · exact absurd hE h1

set_option maxHeartbeats 4000000 in
set_option maxRecDepth 100000 in
theorem K_money {p : Program} {l : Launch} {e : Env} {s : State} {m : MethodId} {below : List Frame} {meth : Method} {c : Code} {V : gV} {sb LL ti cells slots : Nat} {xs : Nat → Int32} {oa : Nat} {am : Nat → Nat} {ou : Int64} {ad r1 r2 r3 : Nat → Nat} {nY : Nat} {ix bu : Nat → Nat} {np : Nat} {st sr : Nat → Nat} {sx tk : Nat → Nat → Nat} {rn sh sn : Nat → Nat} {yw nw : Nat} {yo ce wo : Nat → Nat} {po ne : Nat → Option Nat} {cs : Nat → Nat} {sv : Nat → Nat → Nat} {mk : Nat} {sp rs : Nat → Int} {bg dp : Nat} {th_ nY_ : Nat} {ix_ bu_ : Nat → Nat} {np_ : Nat} {st_ sr_ go_ ca_ : Nat → Nat} {nw_ : Nat} {yo_ ce_ wo_ : Nat → Nat} {po_ ne_ : Nat → Option Nat} {sv_ : Nat → Nat} {cl_ : Nat → Bool} {mk_ bg_ dp_ : Nat} {sh_ nx_ : Nat → Nat} {spn_ : Int} (E : gE p s m #[Value.ref sb] c code 8 R_La V) (hX : va_X sb LL xs s s.heap) (hbl : sb < s.heap.size) (hXJ : XJ s) (hfl : l.flags = flags0) (hL : LL ≤ 2561) (hiL : ti + 5 ≤ LL) (hcl : cells + 1 ≤ 601024) (hsl : slots + 6 ≤ 7293000) (k v : Nat) (h1 : k ≤ 1000000000) (h2 : v ≤ 1000000000) (h1_ : k ≤ 1000000000) (h2_ : v ≤ 1000000000) (hx1 : xs (ti + 1) = nI k) (hx2 : xs (ti + 2) = nI v)  (kk : gg p l e room_1 s m #[Value.ref sb] below meth c 8 (lw_Z below #[Value.ref sb] s) (cells) (slots) (gW V (fun q => s.heap.size ≤ q) s.heap (wG V oa ad r1 r2 r3 am ou nY ix bu np st sr sx tk rn sh sn yw nw yo ce wo po ne cs sv mk sp rs k v 0 nY_ ix_ bu_ np_ st_ sr_ go_ ca_ nw_ yo_ ce_ wo_ po_ ne_ sv_ cl_ mk_ k v sh_ nx_ spn_)) [(4, .int (nI ti)), (3, .ref oa), (2, .ref (am 0)), (1, .ref (ad 0)), (0, .ref sb)] 1527 []) : gg p l e room_1 s m #[Value.ref sb] below meth c 8 (lw_Z below #[Value.ref sb] s) cells slots (gW V (fun q => s.heap.size ≤ q) s.heap (wG V oa ad r1 r2 r3 am ou nY ix bu np st sr sx tk rn sh sn yw nw yo ce wo po ne cs sv mk sp rs bg dp th_ nY_ ix_ bu_ np_ st_ sr_ go_ ca_ nw_ yo_ ce_ wo_ po_ ne_ sv_ cl_ mk_ bg_ dp_ sh_ nx_ spn_)) [(4, .int (nI ti)), (3, .ref oa), (2, .ref (am 0)), (1, .ref (ad 0)), (0, .ref sb)] 1239 [] := by
  refine g_aload_n E d_La_law_1239 rfl 3 rfl ?_
  refine g_aload_n E d_La_law_1240 rfl 4 rfl ?_
  refine g_iload E d_La_law_1241 0 rfl ?_
  refine g_iconst (v := nI 1) E d_La_law_1243 (by decide) ?_
  refine g_iadd E d_La_law_1244 ?_
  refine g_topi (nI_add _ _) ?_
  refine g_scr E hX hbl (by omega) (by omega) d_La_law_1245 ?_
  refine g_topi hx1 ?_
  refine g_aload_n E d_La_law_1246 rfl 4 rfl ?_
  refine g_iload E d_La_law_1247 0 rfl ?_
  refine g_iconst (v := nI 2) E d_La_law_1249 (by decide) ?_
  refine g_iadd E d_La_law_1250 ?_
  refine g_topi (nI_add _ _) ?_
  refine g_scr E hX hbl (by omega) (by omega) d_La_law_1251 ?_
  refine g_topi hx2 ?_
  refine gwLi (w := wG V oa ad r1 r2 r3 am ou nY ix bu np st sr sx tk rn sh sn yw nw yo ce wo po ne cs sv mk sp rs bg dp th_ nY_ ix_ bu_ np_ st_ sr_ go_ ca_ nw_ yo_ ce_ wo_ po_ ne_ sv_ cl_ mk_ bg_ dp_ sh_ nx_ spn_) (w' := wG V oa ad r1 r2 r3 am ou nY ix bu np st sr sx tk rn sh sn yw nw yo ce wo po ne cs sv mk sp rs k v th_ nY_ ix_ bu_ np_ st_ sr_ go_ ca_ nw_ yo_ ce_ wo_ po_ ne_ sv_ cl_ mk_ bg_ dp_ sh_ nx_ spn_) (As := [.ref (ad 0), .int (nI k), .int (nI v)]) (rest := []) E (fun _ h => h) (si (fi (pre := wM V am th_ nY_ ix_ bu_ np_ st_ sr_ go_ ca_ nw_ yo_ ce_ wo_ po_ ne_ sv_ cl_ mk_ bg_ dp_ sh_ nx_ spn_) (L_CY_money l (oa := oa) (ou := ou) k v h1 h2))) kc_La_money kl_La_147 ks_La_money kn_La kd_La_money rfl rfl ⟨Nat.le_of_ble_eq_true rfl, Nat.le_of_ble_eq_true rfl⟩ rfl rfl (Nat.le_of_ble_eq_true rfl) ⟨by show _ ≤ 601024; omega, by show _ ≤ 7293000; omega⟩ d_La_law_1252 ?_
  refine g_istore (lv' := [(5, .int (nI 0)), (4, .int (nI ti)), (3, .ref oa), (2, .ref (am 0)), (1, .ref (ad 0)), (0, .ref sb)]) E d_La_law_1255 (by decide) rfl ?_
  refine g_aload_n E d_La_law_1257 rfl 3 rfl ?_
  refine g_aload_n E d_La_law_1258 rfl 5 rfl ?_
  refine g_iload E d_La_law_1259 1 rfl ?_
  refine g_iconst (v := nI 1) E d_La_law_1261 (by decide) ?_
  refine g_iadd E d_La_law_1262 ?_
  refine g_topi (nI_add _ _) ?_
  refine g_scr E hX hbl (by omega) (by omega) d_La_law_1263 ?_
  refine g_topi hx1 ?_
  refine g_aload_n E d_La_law_1264 rfl 5 rfl ?_
  refine g_iload E d_La_law_1265 1 rfl ?_
  refine g_iconst (v := nI 2) E d_La_law_1267 (by decide) ?_
  refine g_iadd E d_La_law_1268 ?_
  refine g_topi (nI_add _ _) ?_
  refine g_scr E hX hbl (by omega) (by omega) d_La_law_1269 ?_
  refine g_topi hx2 ?_
  refine gwVv (w := wG V oa ad r1 r2 r3 am ou nY ix bu np st sr sx tk rn sh sn yw nw yo ce wo po ne cs sv mk sp rs k v th_ nY_ ix_ bu_ np_ st_ sr_ go_ ca_ nw_ yo_ ce_ wo_ po_ ne_ sv_ cl_ mk_ bg_ dp_ sh_ nx_ spn_) (w' := wG V oa ad r1 r2 r3 am ou nY ix bu np st sr sx tk rn sh sn yw nw yo ce wo po ne cs sv mk sp rs k v 0 nY_ ix_ bu_ np_ st_ sr_ go_ ca_ nw_ yo_ ce_ wo_ po_ ne_ sv_ cl_ mk_ k v sh_ nx_ spn_) (mc := 0) (ms := 0) (As := [.int (nI k), .int (nI v)]) (rest := []) E (fun _ h => h) 57 wG_am rfl (fv (pre := (oa, aX V ou) :: wC V ad r1 r2 r3 nY ix bu np st sr sx tk rn sh sn yw nw yo ce wo po ne cs sv mk sp rs k v) (C_Mo_money l k v h1_ h2_)) (cs_La_150 E rfl rfl ⟨Nat.le_of_ble_eq_true rfl, Nat.le_of_ble_eq_true rfl⟩) rfl rfl (Nat.le_of_ble_eq_true rfl) ⟨by show _ ≤ 601024; omega, by show _ ≤ 7293000; omega⟩ d_La_law_1270 ?_
  refine g_aload_n E d_La_law_1273 rfl 3 rfl ?_
  refine gpVi (As := []) (rest := []) E gO_w 57 wG_am rfl (fpi0 (pre := (oa, aX V ou) :: wC V ad r1 r2 r3 nY ix bu np st sr sx tk rn sh sn yw nw yo ce wo po ne cs sv mk sp rs k v) (C_Mo_thrown l)) (cs_La_92 E rfl rfl ⟨Nat.le_of_ble_eq_true rfl, Nat.le_of_ble_eq_true rfl⟩) rfl rfl (Nat.le_of_ble_eq_true rfl) ⟨by show _ ≤ 601024; omega, by show _ ≤ 7293000; omega⟩ d_La_law_1274 ?_
  refine g_iload E d_La_law_1277 0 rfl ?_
  refine g_ncmp_eq E 1284 d_La_law_1279 (by decide) (by omega) (by omega) (fun h1 => ?_) (fun h1 => ?_)
  · refine g_goto E 1527 d_La_law_1284 (by decide) ?_
    refine g_lv [1, 2, 3, 4, 5] rfl ?_
    exact kk
  · exact absurd rfl h1

set_option maxHeartbeats 4000000 in
set_option maxRecDepth 100000 in
theorem K_reserve {p : Program} {l : Launch} {e : Env} {s : State} {m : MethodId} {below : List Frame} {meth : Method} {c : Code} {V : gV} {sb LL ti cells slots : Nat} {xs : Nat → Int32} {oa : Nat} {am : Nat → Nat} {ou : Int64} {ad r1 r2 r3 : Nat → Nat} {nY : Nat} {ix bu : Nat → Nat} {np : Nat} {st sr : Nat → Nat} {sx tk : Nat → Nat → Nat} {rn sh sn : Nat → Nat} {yw nw : Nat} {yo ce wo : Nat → Nat} {po ne : Nat → Option Nat} {cs : Nat → Nat} {sv : Nat → Nat → Nat} {mk : Nat} {sp rs : Nat → Int} {bg dp : Nat} {th_ nY_ : Nat} {ix_ bu_ : Nat → Nat} {np_ : Nat} {st_ sr_ go_ ca_ : Nat → Nat} {nw_ : Nat} {yo_ ce_ wo_ : Nat → Nat} {po_ ne_ : Nat → Option Nat} {sv_ : Nat → Nat} {cl_ : Nat → Bool} {mk_ bg_ dp_ : Nat} {sh_ nx_ : Nat → Nat} {spn_ : Int} (E : gE p s m #[Value.ref sb] c code 8 R_La V) (hX : va_X sb LL xs s s.heap) (hbl : sb < s.heap.size) (hXJ : XJ s) (hfl : l.flags = flags0) (hL : LL ≤ 2561) (hiL : ti + 5 ≤ LL) (hcl : cells + 1 ≤ 601024) (hsl : slots + 6 ≤ 7293000) (y : Nat) (hy : y < nY) (hnp : np ≤ 12) (hY : nY ≤ 12) (hnw : nw ≤ 10) (hmk : mk < 1024) (hyY : ∀ w, yo w < nY) (hyo : ∀ w, yo w < 12) (hce : ∀ w, ce w ≤ 1000000) (hsv : ∀ a b, sv a b ≤ 1000000) (hdp : dp ≤ 1000000000) (hbg : bg ≤ 1000000000) (hst : ∀ i, st i ≤ 4) (hsr : ∀ i, sr i < 4) (hsi : ∀ i, i < np → sr i < st i) (hM : ∀ i, i < np → ∀ a, a < st i → sumN (fun j => sx i (a * 4 + j)) (st i) = 16) (hrn : ∀ i, rn i < 4096) (hx : ∀ i j, sx i j ≤ 16) (ht : ∀ i j, tk i j ≤ 1000) (hix : ∀ y, ix y ≤ 2000) (hy_ : y < nY_) (hY_ : nY_ ≤ 12) (cf : Nat → Nat → Nat) (hCf_ : ∀ i y u, i < np_ → y < 12 → cM ix_ go_ ca_ sr_ po_ yo_ mk_ nw_ i y u = cf i y) (hnp_ : np_ ≤ 12) (hnw_ : nw_ ≤ 10) (hmk_ : mk_ < 1024) (hyo_ : ∀ w, yo_ w < 12) (hpo_ : ∀ w q, po_ w = some q → q < 12) (hlv_ : ∀ p a, lvN go_ p a ≤ 16) (hgo_ : ∀ j, go_ j ≤ 16) (hsr_ : ∀ i, sr_ i < 4) (hca_ : ∀ j, ca_ j ≤ 1000) (hix_ : ∀ y, ix_ y ≤ 2000) (hT_ : ∀ i y u, i < np_ → y < 12 → tM go_ ca_ sr_ po_ yo_ mk_ nw_ i y u < 2 ^ 62) (hD_ : ∀ i y u, i < np_ → y < 12 → tM go_ ca_ sr_ po_ yo_ mk_ nw_ i y u / 16 ^ (y - bgN po_ yo_ mk_ i y nw_) ≤ 1000) (hce_ : ∀ w, ce_ w ≤ 1000000) (hsv_ : ∀ j, sv_ j ≤ 1000000) (hx1 : xs (ti + 1) = nI y) (hE : lI (rV ix st sr sx tk rn (cS ix yo ce sv nw mk) bg dp np y) = lI (rM cf (cS ix_ yo_ ce_ (fun a b => sv_ (10 * a + b)) nw_ mk_) bg_ dp_ np_ y)) (kk : gg p l e room_1 s m #[Value.ref sb] below meth c 8 (lw_Z below #[Value.ref sb] s) (cells) (slots) (gW V (fun q => s.heap.size ≤ q) s.heap (wG V oa ad r1 r2 r3 am (lI (rV ix st sr sx tk rn (cS ix yo ce sv nw mk) bg dp np y)) nY ix bu np st sr sx tk rn ((tE nY st sr sx rn sh sn yw np).1) ((tE nY st sr sx rn sh sn yw np).2.2) ((tE nY st sr sx rn sh sn yw np).2.1) nw yo ce wo po ne cs sv mk (cS ix yo ce sv nw mk) (fun j => if j < nY then rV ix st sr sx tk rn (cS ix yo ce sv nw mk) bg dp np j else rs j) bg dp 0 nY_ ix_ bu_ np_ st_ sr_ go_ ca_ nw_ yo_ ce_ wo_ po_ ne_ sv_ cl_ mk_ bg_ dp_ ((jY go_ sr_ po_ yo_ mk_ nw_ np_ (sh_, nx_) (y + 1)).1) ((jY go_ sr_ po_ yo_ mk_ nw_ np_ (sh_, nx_) (y + 1)).2) spn_)) [(4, .int (nI ti)), (3, .ref oa), (2, .ref (am 0)), (1, .ref (ad 0)), (0, .ref sb)] 1527 []) : gg p l e room_1 s m #[Value.ref sb] below meth c 8 (lw_Z below #[Value.ref sb] s) cells slots (gW V (fun q => s.heap.size ≤ q) s.heap (wG V oa ad r1 r2 r3 am ou nY ix bu np st sr sx tk rn sh sn yw nw yo ce wo po ne cs sv mk sp rs bg dp th_ nY_ ix_ bu_ np_ st_ sr_ go_ ca_ nw_ yo_ ce_ wo_ po_ ne_ sv_ cl_ mk_ bg_ dp_ sh_ nx_ spn_)) [(4, .int (nI ti)), (3, .ref oa), (2, .ref (am 0)), (1, .ref (ad 0)), (0, .ref sb)] 1287 [] := by
  refine g_aload_n E d_La_law_1287 rfl 3 rfl ?_
  refine g_aload_n E d_La_law_1288 rfl 4 rfl ?_
  refine g_iload E d_La_law_1289 0 rfl ?_
  refine g_iconst (v := nI 1) E d_La_law_1291 (by decide) ?_
  refine g_iadd E d_La_law_1292 ?_
  refine g_topi (nI_add _ _) ?_
  refine g_scr E hX hbl (by omega) (by omega) d_La_law_1293 ?_
  refine g_topi hx1 ?_
  refine g_aload_n E d_La_law_1294 rfl 1 rfl ?_
  refine gwLi (w := wG V oa ad r1 r2 r3 am ou nY ix bu np st sr sx tk rn sh sn yw nw yo ce wo po ne cs sv mk sp rs bg dp th_ nY_ ix_ bu_ np_ st_ sr_ go_ ca_ nw_ yo_ ce_ wo_ po_ ne_ sv_ cl_ mk_ bg_ dp_ sh_ nx_ spn_) (w' := wG V oa ad r1 r2 r3 am (lI (rV ix st sr sx tk rn (cS ix yo ce sv nw mk) bg dp np y)) nY ix bu np st sr sx tk rn ((tE nY st sr sx rn sh sn yw np).1) ((tE nY st sr sx rn sh sn yw np).2.2) ((tE nY st sr sx rn sh sn yw np).2.1) nw yo ce wo po ne cs sv mk (cS ix yo ce sv nw mk) (fun j => if j < nY then rV ix st sr sx tk rn (cS ix yo ce sv nw mk) bg dp np j else rs j) bg dp th_ nY_ ix_ bu_ np_ st_ sr_ go_ ca_ nw_ yo_ ce_ wo_ po_ ne_ sv_ cl_ mk_ bg_ dp_ sh_ nx_ spn_) (As := [.ref (ad 0), .int (nI y), .ref oa]) (rest := []) E (fun _ h => h) (si (fi (pre := wM V am th_ nY_ ix_ bu_ np_ st_ sr_ go_ ca_ nw_ yo_ ce_ wo_ po_ ne_ sv_ cl_ mk_ bg_ dp_ sh_ nx_ spn_) (L_CY_reserve l (oa := oa) (ou := ou) y hy hnp hY hnw hmk hyY hyo hce hsv hdp hbg hst hsr hsi hM hrn hx ht hix))) kc_La_reserve kl_La_151 ks_La_reserve kn_La kd_La_reserve rfl rfl ⟨Nat.le_of_ble_eq_true rfl, Nat.le_of_ble_eq_true rfl⟩ rfl rfl (Nat.le_of_ble_eq_true rfl) ⟨by show _ ≤ 601024; omega, by show _ ≤ 7293000; omega⟩ d_La_law_1295 ?_
  refine g_istore (lv' := [(5, .int (nI 0)), (4, .int (nI ti)), (3, .ref oa), (2, .ref (am 0)), (1, .ref (ad 0)), (0, .ref sb)]) E d_La_law_1298 (by decide) rfl ?_
  refine g_aload_n E d_La_law_1300 rfl 3 rfl ?_
  refine g_aload_n E d_La_law_1301 rfl 5 rfl ?_
  refine g_iload E d_La_law_1302 1 rfl ?_
  refine g_iconst (v := nI 1) E d_La_law_1304 (by decide) ?_
  refine g_iadd E d_La_law_1305 ?_
  refine g_topi (nI_add _ _) ?_
  refine g_scr E hX hbl (by omega) (by omega) d_La_law_1306 ?_
  refine g_topi hx1 ?_
  refine gwVl (w := wG V oa ad r1 r2 r3 am (lI (rV ix st sr sx tk rn (cS ix yo ce sv nw mk) bg dp np y)) nY ix bu np st sr sx tk rn ((tE nY st sr sx rn sh sn yw np).1) ((tE nY st sr sx rn sh sn yw np).2.2) ((tE nY st sr sx rn sh sn yw np).2.1) nw yo ce wo po ne cs sv mk (cS ix yo ce sv nw mk) (fun j => if j < nY then rV ix st sr sx tk rn (cS ix yo ce sv nw mk) bg dp np j else rs j) bg dp th_ nY_ ix_ bu_ np_ st_ sr_ go_ ca_ nw_ yo_ ce_ wo_ po_ ne_ sv_ cl_ mk_ bg_ dp_ sh_ nx_ spn_) (w' := wG V oa ad r1 r2 r3 am (lI (rV ix st sr sx tk rn (cS ix yo ce sv nw mk) bg dp np y)) nY ix bu np st sr sx tk rn ((tE nY st sr sx rn sh sn yw np).1) ((tE nY st sr sx rn sh sn yw np).2.2) ((tE nY st sr sx rn sh sn yw np).2.1) nw yo ce wo po ne cs sv mk (cS ix yo ce sv nw mk) (fun j => if j < nY then rV ix st sr sx tk rn (cS ix yo ce sv nw mk) bg dp np j else rs j) bg dp 0 nY_ ix_ bu_ np_ st_ sr_ go_ ca_ nw_ yo_ ce_ wo_ po_ ne_ sv_ cl_ mk_ bg_ dp_ ((jY go_ sr_ po_ yo_ mk_ nw_ np_ (sh_, nx_) (y + 1)).1) ((jY go_ sr_ po_ yo_ mk_ nw_ np_ (sh_, nx_) (y + 1)).2) spn_) (mc := 0) (ms := 0) (As := [.int (nI y)]) (rest := []) E (fun _ h => h) 57 wG_am rfl (fl (pre := (oa, aX V (lI (rV ix st sr sx tk rn (cS ix yo ce sv nw mk) bg dp np y))) :: wC V ad r1 r2 r3 nY ix bu np st sr sx tk rn ((tE nY st sr sx rn sh sn yw np).1) ((tE nY st sr sx rn sh sn yw np).2.2) ((tE nY st sr sx rn sh sn yw np).2.1) nw yo ce wo po ne cs sv mk (cS ix yo ce sv nw mk) (fun j => if j < nY then rV ix st sr sx tk rn (cS ix yo ce sv nw mk) bg dp np j else rs j) bg dp) (C_Mo_reserve l y hy_ hY_ cf hCf_ hnp_ hnw_ hmk_ hyo_ hpo_ hlv_ hgo_ hsr_ hca_ hix_ hT_ hD_ hce_ hsv_)) (cs_La_153 E rfl rfl ⟨Nat.le_of_ble_eq_true rfl, Nat.le_of_ble_eq_true rfl⟩) rfl rfl (Nat.le_of_ble_eq_true rfl) ⟨by show _ ≤ 601024; omega, by show _ ≤ 7293000; omega⟩ d_La_law_1307 ?_
  refine g_lstore (lv' := [(6, .long (lI (rM cf (cS ix_ yo_ ce_ (fun a b => sv_ (10 * a + b)) nw_ mk_) bg_ dp_ np_ y))), (5, .int (nI 0)), (4, .int (nI ti)), (3, .ref oa), (2, .ref (am 0)), (1, .ref (ad 0)), (0, .ref sb)]) E d_La_law_1310 (by decide) rfl ?_
  refine g_aload_n E d_La_law_1312 rfl 4 rfl ?_
  refine gpVi (As := []) (rest := []) E gO_w 57 wG_am rfl (fpi0 (pre := (oa, aX V (lI (rV ix st sr sx tk rn (cS ix yo ce sv nw mk) bg dp np y))) :: wC V ad r1 r2 r3 nY ix bu np st sr sx tk rn ((tE nY st sr sx rn sh sn yw np).1) ((tE nY st sr sx rn sh sn yw np).2.2) ((tE nY st sr sx rn sh sn yw np).2.1) nw yo ce wo po ne cs sv mk (cS ix yo ce sv nw mk) (fun j => if j < nY then rV ix st sr sx tk rn (cS ix yo ce sv nw mk) bg dp np j else rs j) bg dp) (C_Mo_thrown l)) (cs_La_92 E rfl rfl ⟨Nat.le_of_ble_eq_true rfl, Nat.le_of_ble_eq_true rfl⟩) rfl rfl (Nat.le_of_ble_eq_true rfl) ⟨by show _ ≤ 601024; omega, by show _ ≤ 7293000; omega⟩ d_La_law_1313 ?_
  refine g_iload E d_La_law_1316 1 rfl ?_
  refine g_ncmp_eq E 1323 d_La_law_1318 (by decide) (by omega) (by omega) (fun h1 => ?_) (fun h1 => ?_)
  · refine g_iload E d_La_law_1323 1 rfl ?_
    refine g_nif_ne E 1339 d_La_law_1325 (by decide) (by decide) (fun h2 => absurd h2 (by decide)) (fun _ => ?_)
    refine g_aload_n E d_La_law_1328 rfl 3 rfl ?_
    refine g_iconst (v := nI 0) E d_La_law_1329 (by decide) ?_
    refine g_ldX E gO_w 0 rfl d_La_law_1330 ?_
    refine g_lload E d_La_law_1331 0 rfl ?_
    refine g_lcmp E d_La_law_1333 ?_
    refine g_if_eq E 1339 d_La_law_1334 (by decide) (fun h3 => ?_) (fun h3 => ?_)
    · refine g_goto E 1527 d_La_law_1339 (by decide) ?_
      refine g_lv [2, 3, 4, 5, 6] rfl ?_
      exact kk
    · exact absurd (lg_eq.mpr (by rw [hE])) h3
  · exact absurd rfl h1

set_option maxHeartbeats 4000000 in
set_option maxRecDepth 100000 in
theorem K_shortIn {p : Program} {l : Launch} {e : Env} {s : State} {m : MethodId} {below : List Frame} {meth : Method} {c : Code} {V : gV} {sb LL ti cells slots : Nat} {xs : Nat → Int32} {oa : Nat} {am : Nat → Nat} {ou : Int64} {ad r1 r2 r3 : Nat → Nat} {nY : Nat} {ix bu : Nat → Nat} {np : Nat} {st sr : Nat → Nat} {sx tk : Nat → Nat → Nat} {rn sh sn : Nat → Nat} {yw nw : Nat} {yo ce wo : Nat → Nat} {po ne : Nat → Option Nat} {cs : Nat → Nat} {sv : Nat → Nat → Nat} {mk : Nat} {sp rs : Nat → Int} {bg dp : Nat} {th_ nY_ : Nat} {ix_ bu_ : Nat → Nat} {np_ : Nat} {st_ sr_ go_ ca_ : Nat → Nat} {nw_ : Nat} {yo_ ce_ wo_ : Nat → Nat} {po_ ne_ : Nat → Option Nat} {sv_ : Nat → Nat} {cl_ : Nat → Bool} {mk_ bg_ dp_ : Nat} {sh_ nx_ : Nat → Nat} {spn_ : Int} (E : gE p s m #[Value.ref sb] c code 8 R_La V) (hX : va_X sb LL xs s s.heap) (hbl : sb < s.heap.size) (hXJ : XJ s) (hfl : l.flags = flags0) (hL : LL ≤ 2561) (hiL : ti + 5 ≤ LL) (hcl : cells + 1 ≤ 601024) (hsl : slots + 6 ≤ 7293000) (hnp : np ≤ 12) (hY : nY ≤ 12) (hnw : nw ≤ 10) (hmk : mk < 1024) (hyY : ∀ w, yo w < nY) (hyo : ∀ w, yo w < 12) (hce : ∀ w, ce w ≤ 1000000) (hsv : ∀ a b, sv a b ≤ 1000000) (hdp : dp ≤ 1000000000) (hbg : bg ≤ 1000000000) (hst : ∀ i, st i ≤ 4) (hsr : ∀ i, sr i < 4) (hsi : ∀ i, i < np → sr i < st i) (hM : ∀ i, i < np → ∀ a, a < st i → sumN (fun j => sx i (a * 4 + j)) (st i) = 16) (hrn : ∀ i, rn i < 4096) (hx : ∀ i j, sx i j ≤ 16) (ht : ∀ i j, tk i j ≤ 1000) (hix : ∀ y, ix y ≤ 2000) (hY_ : nY_ ≤ 12) (cf : Nat → Nat → Nat) (hCf_ : ∀ i y u, i < np_ → y < 12 → cM ix_ go_ ca_ sr_ po_ yo_ mk_ nw_ i y u = cf i y) (hnp_ : np_ ≤ 12) (hnw_ : nw_ ≤ 10) (hmk_ : mk_ < 1024) (hyo_ : ∀ w, yo_ w < 12) (hpo_ : ∀ w q, po_ w = some q → q < 12) (hlv_ : ∀ p a, lvN go_ p a ≤ 16) (hgo_ : ∀ j, go_ j ≤ 16) (hsr_ : ∀ i, sr_ i < 4) (hca_ : ∀ j, ca_ j ≤ 1000) (hix_ : ∀ y, ix_ y ≤ 2000) (hT_ : ∀ i y u, i < np_ → y < 12 → tM go_ ca_ sr_ po_ yo_ mk_ nw_ i y u < 2 ^ 62) (hD_ : ∀ i y u, i < np_ → y < 12 → tM go_ ca_ sr_ po_ yo_ mk_ nw_ i y u / 16 ^ (y - bgN po_ yo_ mk_ i y nw_) ≤ 1000) (hce_ : ∀ w, ce_ w ≤ 1000000) (hsv_ : ∀ j, sv_ j ≤ 1000000) (hB_ : ∀ y, y < 12 → -100000000000 ≤ rM cf (cS ix_ yo_ ce_ (fun a b => sv_ (10 * a + b)) nw_ mk_) bg_ dp_ np_ y ∧ rM cf (cS ix_ yo_ ce_ (fun a b => sv_ (10 * a + b)) nw_ mk_) bg_ dp_ np_ y ≤ 100000000000)  (hE : oN (fs0 (rV ix st sr sx tk rn (cS ix yo ce sv nw mk) bg dp np) nY) = oN (fs0 (rM cf (cS ix_ yo_ ce_ (fun a b => sv_ (10 * a + b)) nw_ mk_) bg_ dp_ np_) nY_)) (kk : gg p l e room_1 s m #[Value.ref sb] below meth c 8 (lw_Z below #[Value.ref sb] s) (cells) (slots) (gW V (fun q => s.heap.size ≤ q) s.heap (wG V oa ad r1 r2 r3 am ou nY ix bu np st sr sx tk rn ((tE nY st sr sx rn sh sn yw np).1) ((tE nY st sr sx rn sh sn yw np).2.2) ((tE nY st sr sx rn sh sn yw np).2.1) nw yo ce wo po ne cs sv mk (cS ix yo ce sv nw mk) (fun j => if j < nY then rV ix st sr sx tk rn (cS ix yo ce sv nw mk) bg dp np j else rs j) bg dp 0 nY_ ix_ bu_ np_ st_ sr_ go_ ca_ nw_ yo_ ce_ wo_ po_ ne_ sv_ cl_ mk_ bg_ dp_ ((jZ go_ sr_ po_ yo_ mk_ nw_ np_ (sh_, nx_) (enZ (rM cf (cS ix_ yo_ ce_ (fun a b => sv_ (10 * a + b)) nw_ mk_) bg_ dp_ np_) nY_)).1) ((jZ go_ sr_ po_ yo_ mk_ nw_ np_ (sh_, nx_) (enZ (rM cf (cS ix_ yo_ ce_ (fun a b => sv_ (10 * a + b)) nw_ mk_) bg_ dp_ np_) nY_)).2) spn_)) [(4, .int (nI ti)), (3, .ref oa), (2, .ref (am 0)), (1, .ref (ad 0)), (0, .ref sb)] 1527 []) : gg p l e room_1 s m #[Value.ref sb] below meth c 8 (lw_Z below #[Value.ref sb] s) cells slots (gW V (fun q => s.heap.size ≤ q) s.heap (wG V oa ad r1 r2 r3 am ou nY ix bu np st sr sx tk rn sh sn yw nw yo ce wo po ne cs sv mk sp rs bg dp th_ nY_ ix_ bu_ np_ st_ sr_ go_ ca_ nw_ yo_ ce_ wo_ po_ ne_ sv_ cl_ mk_ bg_ dp_ sh_ nx_ spn_)) [(4, .int (nI ti)), (3, .ref oa), (2, .ref (am 0)), (1, .ref (ad 0)), (0, .ref sb)] 1342 [] := by
  refine g_aload_n E d_La_law_1342 rfl 3 rfl ?_
  refine gwVi (w := wG V oa ad r1 r2 r3 am ou nY ix bu np st sr sx tk rn sh sn yw nw yo ce wo po ne cs sv mk sp rs bg dp th_ nY_ ix_ bu_ np_ st_ sr_ go_ ca_ nw_ yo_ ce_ wo_ po_ ne_ sv_ cl_ mk_ bg_ dp_ sh_ nx_ spn_) (w' := wG V oa ad r1 r2 r3 am ou nY ix bu np st sr sx tk rn ((tE nY st sr sx rn sh sn yw np).1) ((tE nY st sr sx rn sh sn yw np).2.2) ((tE nY st sr sx rn sh sn yw np).2.1) nw yo ce wo po ne cs sv mk (cS ix yo ce sv nw mk) (fun j => if j < nY then rV ix st sr sx tk rn (cS ix yo ce sv nw mk) bg dp np j else rs j) bg dp th_ nY_ ix_ bu_ np_ st_ sr_ go_ ca_ nw_ yo_ ce_ wo_ po_ ne_ sv_ cl_ mk_ bg_ dp_ sh_ nx_ spn_) (mc := 0) (ms := 0) (As := []) (rest := []) E (fun _ h => h) 1 rfl rfl (si (fi (pre := wM V am th_ nY_ ix_ bu_ np_ st_ sr_ go_ ca_ nw_ yo_ ce_ wo_ po_ ne_ sv_ cl_ mk_ bg_ dp_ sh_ nx_ spn_) (fi (pre := [(oa, aX V ou)]) (C_CY_shortIn l hnp hY hnw hmk hyY hyo hce hsv hdp hbg hst hsr hsi hM hrn hx ht hix)))) (cs_La_154 E rfl rfl ⟨Nat.le_of_ble_eq_true rfl, Nat.le_of_ble_eq_true rfl⟩) rfl rfl (Nat.le_of_ble_eq_true rfl) ⟨by show _ ≤ 601024; omega, by show _ ≤ 7293000; omega⟩ d_La_law_1343 ?_
  refine g_aload_n E d_La_law_1346 rfl 2 rfl ?_
  refine gwVi (w := wG V oa ad r1 r2 r3 am ou nY ix bu np st sr sx tk rn ((tE nY st sr sx rn sh sn yw np).1) ((tE nY st sr sx rn sh sn yw np).2.2) ((tE nY st sr sx rn sh sn yw np).2.1) nw yo ce wo po ne cs sv mk (cS ix yo ce sv nw mk) (fun j => if j < nY then rV ix st sr sx tk rn (cS ix yo ce sv nw mk) bg dp np j else rs j) bg dp th_ nY_ ix_ bu_ np_ st_ sr_ go_ ca_ nw_ yo_ ce_ wo_ po_ ne_ sv_ cl_ mk_ bg_ dp_ sh_ nx_ spn_) (w' := wG V oa ad r1 r2 r3 am ou nY ix bu np st sr sx tk rn ((tE nY st sr sx rn sh sn yw np).1) ((tE nY st sr sx rn sh sn yw np).2.2) ((tE nY st sr sx rn sh sn yw np).2.1) nw yo ce wo po ne cs sv mk (cS ix yo ce sv nw mk) (fun j => if j < nY then rV ix st sr sx tk rn (cS ix yo ce sv nw mk) bg dp np j else rs j) bg dp 0 nY_ ix_ bu_ np_ st_ sr_ go_ ca_ nw_ yo_ ce_ wo_ po_ ne_ sv_ cl_ mk_ bg_ dp_ ((jZ go_ sr_ po_ yo_ mk_ nw_ np_ (sh_, nx_) (enZ (rM cf (cS ix_ yo_ ce_ (fun a b => sv_ (10 * a + b)) nw_ mk_) bg_ dp_ np_) nY_)).1) ((jZ go_ sr_ po_ yo_ mk_ nw_ np_ (sh_, nx_) (enZ (rM cf (cS ix_ yo_ ce_ (fun a b => sv_ (10 * a + b)) nw_ mk_) bg_ dp_ np_) nY_)).2) spn_) (mc := 0) (ms := 0) (As := []) (rest := [.int (oN (fs0 (rV ix st sr sx tk rn (cS ix yo ce sv nw mk) bg dp np) nY))]) E (fun _ h => h) 57 wG_am rfl (fi (pre := (oa, aX V ou) :: wC V ad r1 r2 r3 nY ix bu np st sr sx tk rn ((tE nY st sr sx rn sh sn yw np).1) ((tE nY st sr sx rn sh sn yw np).2.2) ((tE nY st sr sx rn sh sn yw np).2.1) nw yo ce wo po ne cs sv mk (cS ix yo ce sv nw mk) (fun j => if j < nY then rV ix st sr sx tk rn (cS ix yo ce sv nw mk) bg dp np j else rs j) bg dp) (C_Mo_shortIn l hY_ cf hCf_ hnp_ hnw_ hmk_ hyo_ hpo_ hlv_ hgo_ hsr_ hca_ hix_ hT_ hD_ hce_ hsv_ hB_)) (cs_La_157 E rfl rfl ⟨Nat.le_of_ble_eq_true rfl, Nat.le_of_ble_eq_true rfl⟩) rfl rfl (Nat.le_of_ble_eq_true rfl) ⟨by show _ ≤ 601024; omega, by show _ ≤ 7293000; omega⟩ d_La_law_1347 ?_
  refine g_icmp_eq E 1527 d_La_law_1350 (by decide) (fun h1 => ?_) (fun h1 => ?_)
  · refine g_lv [0, 1, 2, 3, 4] rfl ?_
    exact kk
  · exact absurd hE h1

set_option maxHeartbeats 4000000 in
set_option maxRecDepth 100000 in
theorem K_payment {p : Program} {l : Launch} {e : Env} {s : State} {m : MethodId} {below : List Frame} {meth : Method} {c : Code} {V : gV} {sb LL ti cells slots : Nat} {xs : Nat → Int32} {oa : Nat} {am : Nat → Nat} {ou : Int64} {ad r1 r2 r3 : Nat → Nat} {nY : Nat} {ix bu : Nat → Nat} {np : Nat} {st sr : Nat → Nat} {sx tk : Nat → Nat → Nat} {rn sh sn : Nat → Nat} {yw nw : Nat} {yo ce wo : Nat → Nat} {po ne : Nat → Option Nat} {cs : Nat → Nat} {sv : Nat → Nat → Nat} {mk : Nat} {sp rs : Nat → Int} {bg dp : Nat} {th_ nY_ : Nat} {ix_ bu_ : Nat → Nat} {np_ : Nat} {st_ sr_ go_ ca_ : Nat → Nat} {nw_ : Nat} {yo_ ce_ wo_ : Nat → Nat} {po_ ne_ : Nat → Option Nat} {sv_ : Nat → Nat} {cl_ : Nat → Bool} {mk_ bg_ dp_ : Nat} {sh_ nx_ : Nat → Nat} {spn_ : Int} (E : gE p s m #[Value.ref sb] c code 8 R_La V) (hX : va_X sb LL xs s s.heap) (hbl : sb < s.heap.size) (hXJ : XJ s) (hfl : l.flags = flags0) (hL : LL ≤ 2561) (hiL : ti + 5 ≤ LL) (hcl : cells + 1 ≤ 601024) (hsl : slots + 6 ≤ 7293000) (k r n : Nat) (h1 : 1 ≤ k) (h2 : k ≤ 1000000000) (h3 : r ≤ 2000) (h4 : 1 ≤ n) (h5 : n ≤ 30) (h1_ : 1 ≤ k) (h2_ : k ≤ 1000000000) (h3_ : r ≤ 2000) (h4_ : 1 ≤ n) (h5_ : n ≤ 30) (hx1 : xs (ti + 1) = nI k) (hx2 : xs (ti + 2) = nI r) (hx3 : xs (ti + 3) = nI n) (hE : nI (lpN k r n 31 + 1) = nI (lpN k r n 31 + 1)) (kk : gg p l e room_1 s m #[Value.ref sb] below meth c 8 (lw_Z below #[Value.ref sb] s) (cells) (slots) (gW V (fun q => s.heap.size ≤ q) s.heap (wG V oa ad r1 r2 r3 am ((nI (lpN k r n 31 + 1)).toInt64) nY ix bu np st sr sx tk rn sh sn yw nw yo ce wo po ne cs sv mk sp rs bg dp 0 nY_ ix_ bu_ np_ st_ sr_ go_ ca_ nw_ yo_ ce_ wo_ po_ ne_ sv_ cl_ mk_ bg_ dp_ sh_ nx_ spn_)) [(4, .int (nI ti)), (3, .ref oa), (2, .ref (am 0)), (1, .ref (ad 0)), (0, .ref sb)] 1527 []) : gg p l e room_1 s m #[Value.ref sb] below meth c 8 (lw_Z below #[Value.ref sb] s) cells slots (gW V (fun q => s.heap.size ≤ q) s.heap (wG V oa ad r1 r2 r3 am ou nY ix bu np st sr sx tk rn sh sn yw nw yo ce wo po ne cs sv mk sp rs bg dp th_ nY_ ix_ bu_ np_ st_ sr_ go_ ca_ nw_ yo_ ce_ wo_ po_ ne_ sv_ cl_ mk_ bg_ dp_ sh_ nx_ spn_)) [(4, .int (nI ti)), (3, .ref oa), (2, .ref (am 0)), (1, .ref (ad 0)), (0, .ref sb)] 1355 [] := by
  refine g_aload_n E d_La_law_1355 rfl 3 rfl ?_
  refine g_aload_n E d_La_law_1356 rfl 4 rfl ?_
  refine g_iload E d_La_law_1357 0 rfl ?_
  refine g_iconst (v := nI 1) E d_La_law_1359 (by decide) ?_
  refine g_iadd E d_La_law_1360 ?_
  refine g_topi (nI_add _ _) ?_
  refine g_scr E hX hbl (by omega) (by omega) d_La_law_1361 ?_
  refine g_topi hx1 ?_
  refine g_aload_n E d_La_law_1362 rfl 4 rfl ?_
  refine g_iload E d_La_law_1363 0 rfl ?_
  refine g_iconst (v := nI 2) E d_La_law_1365 (by decide) ?_
  refine g_iadd E d_La_law_1366 ?_
  refine g_topi (nI_add _ _) ?_
  refine g_scr E hX hbl (by omega) (by omega) d_La_law_1367 ?_
  refine g_topi hx2 ?_
  refine g_aload_n E d_La_law_1368 rfl 4 rfl ?_
  refine g_iload E d_La_law_1369 0 rfl ?_
  refine g_iconst (v := nI 3) E d_La_law_1371 (by decide) ?_
  refine g_iadd E d_La_law_1372 ?_
  refine g_topi (nI_add _ _) ?_
  refine g_scr E hX hbl (by omega) (by omega) d_La_law_1373 ?_
  refine g_topi hx3 ?_
  refine g_aload_n E d_La_law_1374 rfl 1 rfl ?_
  refine gwLi (w := wG V oa ad r1 r2 r3 am ou nY ix bu np st sr sx tk rn sh sn yw nw yo ce wo po ne cs sv mk sp rs bg dp th_ nY_ ix_ bu_ np_ st_ sr_ go_ ca_ nw_ yo_ ce_ wo_ po_ ne_ sv_ cl_ mk_ bg_ dp_ sh_ nx_ spn_) (w' := wG V oa ad r1 r2 r3 am ((nI (lpN k r n 31 + 1)).toInt64) nY ix bu np st sr sx tk rn sh sn yw nw yo ce wo po ne cs sv mk sp rs bg dp th_ nY_ ix_ bu_ np_ st_ sr_ go_ ca_ nw_ yo_ ce_ wo_ po_ ne_ sv_ cl_ mk_ bg_ dp_ sh_ nx_ spn_) (As := [.ref (ad 0), .int (nI k), .int (nI r), .int (nI n), .ref oa]) (rest := []) E (fun _ h => h) (si (fi (pre := wM V am th_ nY_ ix_ bu_ np_ st_ sr_ go_ ca_ nw_ yo_ ce_ wo_ po_ ne_ sv_ cl_ mk_ bg_ dp_ sh_ nx_ spn_) (L_CY_payment l (oa := oa) (ou := ou) k r n h1 h2 h3 h4 h5))) kc_La_payment kl_La_158 ks_La_payment kn_La kd_La_payment rfl rfl ⟨Nat.le_of_ble_eq_true rfl, Nat.le_of_ble_eq_true rfl⟩ rfl rfl (Nat.le_of_ble_eq_true rfl) ⟨by show _ ≤ 601024; omega, by show _ ≤ 7293000; omega⟩ d_La_law_1375 ?_
  refine g_istore (lv' := [(5, .int (nI 0)), (4, .int (nI ti)), (3, .ref oa), (2, .ref (am 0)), (1, .ref (ad 0)), (0, .ref sb)]) E d_La_law_1378 (by decide) rfl ?_
  refine g_aload_n E d_La_law_1380 rfl 3 rfl ?_
  refine g_aload_n E d_La_law_1381 rfl 5 rfl ?_
  refine g_iload E d_La_law_1382 1 rfl ?_
  refine g_iconst (v := nI 1) E d_La_law_1384 (by decide) ?_
  refine g_iadd E d_La_law_1385 ?_
  refine g_topi (nI_add _ _) ?_
  refine g_scr E hX hbl (by omega) (by omega) d_La_law_1386 ?_
  refine g_topi hx1 ?_
  refine g_aload_n E d_La_law_1387 rfl 5 rfl ?_
  refine g_iload E d_La_law_1388 1 rfl ?_
  refine g_iconst (v := nI 2) E d_La_law_1390 (by decide) ?_
  refine g_iadd E d_La_law_1391 ?_
  refine g_topi (nI_add _ _) ?_
  refine g_scr E hX hbl (by omega) (by omega) d_La_law_1392 ?_
  refine g_topi hx2 ?_
  refine g_aload_n E d_La_law_1393 rfl 5 rfl ?_
  refine g_iload E d_La_law_1394 1 rfl ?_
  refine g_iconst (v := nI 3) E d_La_law_1396 (by decide) ?_
  refine g_iadd E d_La_law_1397 ?_
  refine g_topi (nI_add _ _) ?_
  refine g_scr E hX hbl (by omega) (by omega) d_La_law_1398 ?_
  refine g_topi hx3 ?_
  refine gwVi (w := wG V oa ad r1 r2 r3 am ((nI (lpN k r n 31 + 1)).toInt64) nY ix bu np st sr sx tk rn sh sn yw nw yo ce wo po ne cs sv mk sp rs bg dp th_ nY_ ix_ bu_ np_ st_ sr_ go_ ca_ nw_ yo_ ce_ wo_ po_ ne_ sv_ cl_ mk_ bg_ dp_ sh_ nx_ spn_) (w' := wG V oa ad r1 r2 r3 am ((nI (lpN k r n 31 + 1)).toInt64) nY ix bu np st sr sx tk rn sh sn yw nw yo ce wo po ne cs sv mk sp rs bg dp 0 nY_ ix_ bu_ np_ st_ sr_ go_ ca_ nw_ yo_ ce_ wo_ po_ ne_ sv_ cl_ mk_ bg_ dp_ sh_ nx_ spn_) (mc := 0) (ms := 0) (As := [.int (nI k), .int (nI r), .int (nI n)]) (rest := []) E (fun _ h => h) 57 wG_am rfl (fi (pre := (oa, aX V ((nI (lpN k r n 31 + 1)).toInt64)) :: wC V ad r1 r2 r3 nY ix bu np st sr sx tk rn sh sn yw nw yo ce wo po ne cs sv mk sp rs bg dp) (C_Mo_payment l k r n h1_ h2_ h3_ h4_ h5_)) (cs_La_160 E rfl rfl ⟨Nat.le_of_ble_eq_true rfl, Nat.le_of_ble_eq_true rfl⟩) rfl rfl (Nat.le_of_ble_eq_true rfl) ⟨by show _ ≤ 601024; omega, by show _ ≤ 7293000; omega⟩ d_La_law_1399 ?_
  refine g_istore (lv' := [(6, .int (nI (lpN k r n 31 + 1))), (5, .int (nI 0)), (4, .int (nI ti)), (3, .ref oa), (2, .ref (am 0)), (1, .ref (ad 0)), (0, .ref sb)]) E d_La_law_1402 (by decide) rfl ?_
  refine g_aload_n E d_La_law_1404 rfl 4 rfl ?_
  refine gpVi (As := []) (rest := []) E gO_w 57 wG_am rfl (fpi0 (pre := (oa, aX V ((nI (lpN k r n 31 + 1)).toInt64)) :: wC V ad r1 r2 r3 nY ix bu np st sr sx tk rn sh sn yw nw yo ce wo po ne cs sv mk sp rs bg dp) (C_Mo_thrown l)) (cs_La_92 E rfl rfl ⟨Nat.le_of_ble_eq_true rfl, Nat.le_of_ble_eq_true rfl⟩) rfl rfl (Nat.le_of_ble_eq_true rfl) ⟨by show _ ≤ 601024; omega, by show _ ≤ 7293000; omega⟩ d_La_law_1405 ?_
  refine g_iload E d_La_law_1408 1 rfl ?_
  refine g_ncmp_eq E 1415 d_La_law_1410 (by decide) (by omega) (by omega) (fun h1 => ?_) (fun h1 => ?_)
  · refine g_iload E d_La_law_1415 1 rfl ?_
    refine g_nif_ne E 1432 d_La_law_1417 (by decide) (by decide) (fun h2 => absurd h2 (by decide)) (fun _ => ?_)
    refine g_aload_n E d_La_law_1420 rfl 3 rfl ?_
    refine g_iconst (v := nI 0) E d_La_law_1421 (by decide) ?_
    refine g_ldX E gO_w 0 rfl d_La_law_1422 ?_
    refine g_iload E d_La_law_1423 0 rfl ?_
    refine g_i2l E d_La_law_1425 ?_
    refine g_topl rfl ?_
    refine g_lcmp E d_La_law_1426 ?_
    refine g_if_eq E 1432 d_La_law_1427 (by decide) (fun h3 => ?_) (fun h3 => ?_)
    · refine g_goto E 1527 d_La_law_1432 (by decide) ?_
      refine g_lv [2, 3, 4, 5, 6] rfl ?_
      exact kk
    · exact absurd (lg_eq.mpr (by rw [hE])) h3
  · exact absurd rfl h1

set_option maxHeartbeats 4000000 in
set_option maxRecDepth 100000 in
theorem K_rest {p : Program} {l : Launch} {e : Env} {s : State} {m : MethodId} {below : List Frame} {meth : Method} {c : Code} {V : gV} {sb LL ti cells slots : Nat} {xs : Nat → Int32} {oa : Nat} {am : Nat → Nat} {ou : Int64} {ad r1 r2 r3 : Nat → Nat} {nY : Nat} {ix bu : Nat → Nat} {np : Nat} {st sr : Nat → Nat} {sx tk : Nat → Nat → Nat} {rn sh sn : Nat → Nat} {yw nw : Nat} {yo ce wo : Nat → Nat} {po ne : Nat → Option Nat} {cs : Nat → Nat} {sv : Nat → Nat → Nat} {mk : Nat} {sp rs : Nat → Int} {bg dp : Nat} {th_ nY_ : Nat} {ix_ bu_ : Nat → Nat} {np_ : Nat} {st_ sr_ go_ ca_ : Nat → Nat} {nw_ : Nat} {yo_ ce_ wo_ : Nat → Nat} {po_ ne_ : Nat → Option Nat} {sv_ : Nat → Nat} {cl_ : Nat → Bool} {mk_ bg_ dp_ : Nat} {sh_ nx_ : Nat → Nat} {spn_ : Int} (E : gE p s m #[Value.ref sb] c code 8 R_La V) (hX : va_X sb LL xs s s.heap) (hbl : sb < s.heap.size) (hXJ : XJ s) (hfl : l.flags = flags0) (hL : LL ≤ 2561) (hiL : ti + 5 ≤ LL) (hcl : cells + 1 ≤ 601024) (hsl : slots + 6 ≤ 7293000) (k r n t : Nat) (h1 : 1 ≤ k) (h2 : k ≤ 1000000000) (h3 : r ≤ 2000) (h4 : 1 ≤ n) (h5 : n ≤ 30) (h6 : t ≤ n) (hlp : lpN k r n 31 + 1 < 2 ^ 31) (h1_ : 1 ≤ k) (h2_ : k ≤ 1000000000) (h3_ : r ≤ 2000) (h4_ : 1 ≤ n) (h5_ : n ≤ 30) (h6_ : t ≤ n) (hx1 : xs (ti + 1) = nI k) (hx2 : xs (ti + 2) = nI r) (hx3 : xs (ti + 3) = nI n) (hx4 : xs (ti + 4) = nI t) (hE : nI (rB k r (lpN k r n 31 + 1) t) = nI (rB k r (lpN k r n 31 + 1) t)) (kk : gg p l e room_1 s m #[Value.ref sb] below meth c 8 (lw_Z below #[Value.ref sb] s) (cells) (slots) (gW V (fun q => s.heap.size ≤ q) s.heap (wG V oa ad r1 r2 r3 am ((nI (rB k r (lpN k r n 31 + 1) t)).toInt64) nY ix bu np st sr sx tk rn sh sn yw nw yo ce wo po ne cs sv mk sp rs bg dp 0 nY_ ix_ bu_ np_ st_ sr_ go_ ca_ nw_ yo_ ce_ wo_ po_ ne_ sv_ cl_ mk_ bg_ dp_ sh_ nx_ spn_)) [(4, .int (nI ti)), (3, .ref oa), (2, .ref (am 0)), (1, .ref (ad 0)), (0, .ref sb)] 1527 []) : gg p l e room_1 s m #[Value.ref sb] below meth c 8 (lw_Z below #[Value.ref sb] s) cells slots (gW V (fun q => s.heap.size ≤ q) s.heap (wG V oa ad r1 r2 r3 am ou nY ix bu np st sr sx tk rn sh sn yw nw yo ce wo po ne cs sv mk sp rs bg dp th_ nY_ ix_ bu_ np_ st_ sr_ go_ ca_ nw_ yo_ ce_ wo_ po_ ne_ sv_ cl_ mk_ bg_ dp_ sh_ nx_ spn_)) [(4, .int (nI ti)), (3, .ref oa), (2, .ref (am 0)), (1, .ref (ad 0)), (0, .ref sb)] 1435 [] := by
  refine g_aload_n E d_La_law_1435 rfl 3 rfl ?_
  refine g_aload_n E d_La_law_1436 rfl 4 rfl ?_
  refine g_iload E d_La_law_1437 0 rfl ?_
  refine g_iconst (v := nI 1) E d_La_law_1439 (by decide) ?_
  refine g_iadd E d_La_law_1440 ?_
  refine g_topi (nI_add _ _) ?_
  refine g_scr E hX hbl (by omega) (by omega) d_La_law_1441 ?_
  refine g_topi hx1 ?_
  refine g_aload_n E d_La_law_1442 rfl 4 rfl ?_
  refine g_iload E d_La_law_1443 0 rfl ?_
  refine g_iconst (v := nI 2) E d_La_law_1445 (by decide) ?_
  refine g_iadd E d_La_law_1446 ?_
  refine g_topi (nI_add _ _) ?_
  refine g_scr E hX hbl (by omega) (by omega) d_La_law_1447 ?_
  refine g_topi hx2 ?_
  refine g_aload_n E d_La_law_1448 rfl 4 rfl ?_
  refine g_iload E d_La_law_1449 0 rfl ?_
  refine g_iconst (v := nI 3) E d_La_law_1451 (by decide) ?_
  refine g_iadd E d_La_law_1452 ?_
  refine g_topi (nI_add _ _) ?_
  refine g_scr E hX hbl (by omega) (by omega) d_La_law_1453 ?_
  refine g_topi hx3 ?_
  refine g_aload_n E d_La_law_1454 rfl 4 rfl ?_
  refine g_iload E d_La_law_1455 0 rfl ?_
  refine g_iconst (v := nI 4) E d_La_law_1457 (by decide) ?_
  refine g_iadd E d_La_law_1458 ?_
  refine g_topi (nI_add _ _) ?_
  refine g_scr E hX hbl (by omega) (by omega) d_La_law_1459 ?_
  refine g_topi hx4 ?_
  refine g_aload_n E d_La_law_1460 rfl 1 rfl ?_
  refine gwLi (w := wG V oa ad r1 r2 r3 am ou nY ix bu np st sr sx tk rn sh sn yw nw yo ce wo po ne cs sv mk sp rs bg dp th_ nY_ ix_ bu_ np_ st_ sr_ go_ ca_ nw_ yo_ ce_ wo_ po_ ne_ sv_ cl_ mk_ bg_ dp_ sh_ nx_ spn_) (w' := wG V oa ad r1 r2 r3 am ((nI (rB k r (lpN k r n 31 + 1) t)).toInt64) nY ix bu np st sr sx tk rn sh sn yw nw yo ce wo po ne cs sv mk sp rs bg dp th_ nY_ ix_ bu_ np_ st_ sr_ go_ ca_ nw_ yo_ ce_ wo_ po_ ne_ sv_ cl_ mk_ bg_ dp_ sh_ nx_ spn_) (As := [.ref (ad 0), .int (nI k), .int (nI r), .int (nI n), .int (nI t), .ref oa]) (rest := []) E (fun _ h => h) (si (fi (pre := wM V am th_ nY_ ix_ bu_ np_ st_ sr_ go_ ca_ nw_ yo_ ce_ wo_ po_ ne_ sv_ cl_ mk_ bg_ dp_ sh_ nx_ spn_) (L_CY_rest l (oa := oa) (ou := ou) k r n t h1 h2 h3 h4 h5 h6 hlp))) kc_La_rest kl_La_161 ks_La_rest kn_La kd_La_rest rfl rfl ⟨Nat.le_of_ble_eq_true rfl, Nat.le_of_ble_eq_true rfl⟩ rfl rfl (Nat.le_of_ble_eq_true rfl) ⟨by show _ ≤ 601024; omega, by show _ ≤ 7293000; omega⟩ d_La_law_1461 ?_
  refine g_istore (lv' := [(5, .int (nI 0)), (4, .int (nI ti)), (3, .ref oa), (2, .ref (am 0)), (1, .ref (ad 0)), (0, .ref sb)]) E d_La_law_1464 (by decide) rfl ?_
  refine g_aload_n E d_La_law_1466 rfl 3 rfl ?_
  refine g_aload_n E d_La_law_1467 rfl 5 rfl ?_
  refine g_iload E d_La_law_1468 1 rfl ?_
  refine g_iconst (v := nI 1) E d_La_law_1470 (by decide) ?_
  refine g_iadd E d_La_law_1471 ?_
  refine g_topi (nI_add _ _) ?_
  refine g_scr E hX hbl (by omega) (by omega) d_La_law_1472 ?_
  refine g_topi hx1 ?_
  refine g_aload_n E d_La_law_1473 rfl 5 rfl ?_
  refine g_iload E d_La_law_1474 1 rfl ?_
  refine g_iconst (v := nI 2) E d_La_law_1476 (by decide) ?_
  refine g_iadd E d_La_law_1477 ?_
  refine g_topi (nI_add _ _) ?_
  refine g_scr E hX hbl (by omega) (by omega) d_La_law_1478 ?_
  refine g_topi hx2 ?_
  refine g_aload_n E d_La_law_1479 rfl 5 rfl ?_
  refine g_iload E d_La_law_1480 1 rfl ?_
  refine g_iconst (v := nI 3) E d_La_law_1482 (by decide) ?_
  refine g_iadd E d_La_law_1483 ?_
  refine g_topi (nI_add _ _) ?_
  refine g_scr E hX hbl (by omega) (by omega) d_La_law_1484 ?_
  refine g_topi hx3 ?_
  refine g_aload_n E d_La_law_1485 rfl 5 rfl ?_
  refine g_iload E d_La_law_1486 1 rfl ?_
  refine g_iconst (v := nI 4) E d_La_law_1488 (by decide) ?_
  refine g_iadd E d_La_law_1489 ?_
  refine g_topi (nI_add _ _) ?_
  refine g_scr E hX hbl (by omega) (by omega) d_La_law_1490 ?_
  refine g_topi hx4 ?_
  refine gwVi (w := wG V oa ad r1 r2 r3 am ((nI (rB k r (lpN k r n 31 + 1) t)).toInt64) nY ix bu np st sr sx tk rn sh sn yw nw yo ce wo po ne cs sv mk sp rs bg dp th_ nY_ ix_ bu_ np_ st_ sr_ go_ ca_ nw_ yo_ ce_ wo_ po_ ne_ sv_ cl_ mk_ bg_ dp_ sh_ nx_ spn_) (w' := wG V oa ad r1 r2 r3 am ((nI (rB k r (lpN k r n 31 + 1) t)).toInt64) nY ix bu np st sr sx tk rn sh sn yw nw yo ce wo po ne cs sv mk sp rs bg dp 0 nY_ ix_ bu_ np_ st_ sr_ go_ ca_ nw_ yo_ ce_ wo_ po_ ne_ sv_ cl_ mk_ bg_ dp_ sh_ nx_ spn_) (mc := 0) (ms := 0) (As := [.int (nI k), .int (nI r), .int (nI n), .int (nI t)]) (rest := []) E (fun _ h => h) 57 wG_am rfl (fi (pre := (oa, aX V ((nI (rB k r (lpN k r n 31 + 1) t)).toInt64)) :: wC V ad r1 r2 r3 nY ix bu np st sr sx tk rn sh sn yw nw yo ce wo po ne cs sv mk sp rs bg dp) (C_Mo_rest l k r n t h1_ h2_ h3_ h4_ h5_ h6_)) (cs_La_163 E rfl rfl ⟨Nat.le_of_ble_eq_true rfl, Nat.le_of_ble_eq_true rfl⟩) rfl rfl (Nat.le_of_ble_eq_true rfl) ⟨by show _ ≤ 601024; omega, by show _ ≤ 7293000; omega⟩ d_La_law_1491 ?_
  refine g_istore (lv' := [(6, .int (nI (rB k r (lpN k r n 31 + 1) t))), (5, .int (nI 0)), (4, .int (nI ti)), (3, .ref oa), (2, .ref (am 0)), (1, .ref (ad 0)), (0, .ref sb)]) E d_La_law_1494 (by decide) rfl ?_
  refine g_aload_n E d_La_law_1496 rfl 4 rfl ?_
  refine gpVi (As := []) (rest := []) E gO_w 57 wG_am rfl (fpi0 (pre := (oa, aX V ((nI (rB k r (lpN k r n 31 + 1) t)).toInt64)) :: wC V ad r1 r2 r3 nY ix bu np st sr sx tk rn sh sn yw nw yo ce wo po ne cs sv mk sp rs bg dp) (C_Mo_thrown l)) (cs_La_92 E rfl rfl ⟨Nat.le_of_ble_eq_true rfl, Nat.le_of_ble_eq_true rfl⟩) rfl rfl (Nat.le_of_ble_eq_true rfl) ⟨by show _ ≤ 601024; omega, by show _ ≤ 7293000; omega⟩ d_La_law_1497 ?_
  refine g_iload E d_La_law_1500 1 rfl ?_
  refine g_ncmp_eq E 1507 d_La_law_1502 (by decide) (by omega) (by omega) (fun h1 => ?_) (fun h1 => ?_)
  · refine g_iload E d_La_law_1507 1 rfl ?_
    refine g_nif_ne E 1524 d_La_law_1509 (by decide) (by decide) (fun h2 => absurd h2 (by decide)) (fun _ => ?_)
    refine g_aload_n E d_La_law_1512 rfl 3 rfl ?_
    refine g_iconst (v := nI 0) E d_La_law_1513 (by decide) ?_
    refine g_ldX E gO_w 0 rfl d_La_law_1514 ?_
    refine g_iload E d_La_law_1515 0 rfl ?_
    refine g_i2l E d_La_law_1517 ?_
    refine g_topl rfl ?_
    refine g_lcmp E d_La_law_1518 ?_
    refine g_if_eq E 1524 d_La_law_1519 (by decide) (fun h3 => ?_) (fun h3 => ?_)
    · refine g_goto E 1527 d_La_law_1524 (by decide) ?_
      refine g_lv [2, 3, 4, 5, 6] rfl ?_
      exact kk
    · exact absurd (lg_eq.mpr (by rw [hE])) h3
  · exact absurd rfl h1
