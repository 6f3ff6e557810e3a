set_option maxHeartbeats 4000000 in
set_option maxRecDepth 100000 in
theorem K_index_x {p : Program} {l : Launch} {e : Env} {s : State} {m : MethodId} {below : List Frame} {meth : Method} {c : Code} {V : gV} {sb LL ti cells slots : Nat} {xs : Nat → Int32} {oa : Nat} {am : Nat → Nat} {ou : Int64} {ad r1 r2 r3 : Nat → Nat} {nY : Nat} {ix bu : Nat → Nat} {np : Nat} {st sr : Nat → Nat} {sx tk : Nat → Nat → Nat} {rn sh sn : Nat → Nat} {yw nw : Nat} {yo ce wo : Nat → Nat} {po ne : Nat → Option Nat} {cs : Nat → Nat} {sv : Nat → Nat → Nat} {mk : Nat} {sp rs : Nat → Int} {bg dp : Nat} {th_ nY_ : Nat} {ix_ bu_ : Nat → Nat} {np_ : Nat} {st_ sr_ go_ ca_ : Nat → Nat} {nw_ : Nat} {yo_ ce_ wo_ : Nat → Nat} {po_ ne_ : Nat → Option Nat} {sv_ : Nat → Nat} {cl_ : Nat → Bool} {mk_ bg_ dp_ : Nat} {sh_ nx_ : Nat → Nat} {spn_ : Int} (E : gE p s m #[Value.ref sb] c code 8 R_La V) (hX : va_X sb LL xs s s.heap) (hbl : sb < s.heap.size) (hXJ : XJ s) (hfl : l.flags = flags0) (hL : LL ≤ 2561) (hiL : ti + 5 ≤ LL) (hcl : cells + 1 ≤ 601024) (hsl : slots + 6 ≤ 7293000) (x v : Int32) (hb : (inR x (nI nY) && inB v (nI 500) (nI 2000)) = false) (hY_ : nY_ ≤ 12) (hb_ : (inR x (nI nY_) && inB v (nI 500) (nI 2000)) = false) (hx1 : xs (ti + 1) = x) (hx2 : xs (ti + 2) = v)  (kk : gg p l e room_1 s m #[Value.ref sb] below meth c 8 (lw_Z below #[Value.ref sb] s) (cells + 1) (slots + 6) (gW V (fun q => s.heap.size ≤ q) s.heap (wG V oa ad r1 r2 r3 am ou nY ix bu np st sr sx tk rn sh sn yw nw yo ce wo po ne cs sv mk sp rs bg dp 1 nY_ ix_ bu_ np_ st_ sr_ go_ ca_ nw_ yo_ ce_ wo_ po_ ne_ sv_ cl_ mk_ bg_ dp_ sh_ nx_ spn_)) [(4, .int (nI ti)), (3, .ref oa), (2, .ref (am 0)), (1, .ref (ad 0)), (0, .ref sb)] 1527 []) : gg p l e room_1 s m #[Value.ref sb] below meth c 8 (lw_Z below #[Value.ref sb] s) cells slots (gW V (fun q => s.heap.size ≤ q) s.heap (wG V oa ad r1 r2 r3 am ou nY ix bu np st sr sx tk rn sh sn yw nw yo ce wo po ne cs sv mk sp rs bg dp th_ nY_ ix_ bu_ np_ st_ sr_ go_ ca_ nw_ yo_ ce_ wo_ po_ ne_ sv_ cl_ mk_ bg_ dp_ sh_ nx_ spn_)) [(4, .int (nI ti)), (3, .ref oa), (2, .ref (am 0)), (1, .ref (ad 0)), (0, .ref sb)] 148 [] := by
  refine g_aload_n E d_La_law_148 rfl 3 rfl ?_
  refine g_aload_n E d_La_law_149 rfl 4 rfl ?_
  refine g_iload E d_La_law_150 0 rfl ?_
  refine g_iconst (v := nI 1) E d_La_law_152 (by decide) ?_
  refine g_iadd E d_La_law_153 ?_
  refine g_topi (nI_add _ _) ?_
  refine g_scr E hX hbl (by omega) (by omega) d_La_law_154 ?_
  refine g_topi hx1 ?_
  refine g_aload_n E d_La_law_155 rfl 4 rfl ?_
  refine g_iload E d_La_law_156 0 rfl ?_
  refine g_iconst (v := nI 2) E d_La_law_158 (by decide) ?_
  refine g_iadd E d_La_law_159 ?_
  refine g_topi (nI_add _ _) ?_
  refine g_scr E hX hbl (by omega) (by omega) d_La_law_160 ?_
  refine g_topi hx2 ?_
  refine g_aload_n E d_La_law_161 rfl 1 rfl ?_
  refine gbLi (w := wG V oa ad r1 r2 r3 am ou nY ix bu np st sr sx tk rn sh sn yw nw yo ce wo po ne cs sv mk sp rs bg dp th_ nY_ ix_ bu_ np_ st_ sr_ go_ ca_ nw_ yo_ ce_ wo_ po_ ne_ sv_ cl_ mk_ bg_ dp_ sh_ nx_ spn_) (As := [.ref (ad 0), .int x, .int v, .ref oa]) (rest := []) E hXJ (fbi (post := wM V am th_ nY_ ix_ bu_ np_ st_ sr_ go_ ca_ nw_ yo_ ce_ wo_ po_ ne_ sv_ cl_ mk_ bg_ dp_ sh_ nx_ spn_) (B_CY_index l hfl (oa := oa) (ou := ou) x v hb)) kc_La_index kl_La_88 ks_La_index kn_La kd_La_index rfl rfl ⟨Nat.le_of_ble_eq_true rfl, Nat.le_of_ble_eq_true rfl⟩ rfl rfl (Nat.le_of_ble_eq_true rfl) ⟨by show _ ≤ 601024; omega, by show _ ≤ 7293000; omega⟩ d_La_law_162 ?_
  refine g_istore (lv' := [(5, .int (nI 1)), (4, .int (nI ti)), (3, .ref oa), (2, .ref (am 0)), (1, .ref (ad 0)), (0, .ref sb)]) E d_La_law_165 (by decide) rfl ?_
  refine g_aload_n E d_La_law_167 rfl 3 rfl ?_
  refine g_aload_n E d_La_law_168 rfl 5 rfl ?_
  refine g_iload E d_La_law_169 1 rfl ?_
  refine g_iconst (v := nI 1) E d_La_law_171 (by decide) ?_
  refine g_iadd E d_La_law_172 ?_
  refine g_topi (nI_add _ _) ?_
  refine g_scr E hX hbl (by omega) (by omega) d_La_law_173 ?_
  refine g_topi hx1 ?_
  refine g_aload_n E d_La_law_174 rfl 5 rfl ?_
  refine g_iload E d_La_law_175 1 rfl ?_
  refine g_iconst (v := nI 2) E d_La_law_177 (by decide) ?_
  refine g_iadd E d_La_law_178 ?_
  refine g_topi (nI_add _ _) ?_
  refine g_scr E hX hbl (by omega) (by omega) d_La_law_179 ?_
  refine g_topi hx2 ?_
  refine gwVi (w := wG V oa ad r1 r2 r3 am ou nY ix bu np st sr sx tk rn sh sn yw nw yo ce wo po ne cs sv mk sp rs bg dp th_ nY_ ix_ bu_ np_ st_ sr_ go_ ca_ nw_ yo_ ce_ wo_ po_ ne_ sv_ cl_ mk_ bg_ dp_ sh_ nx_ spn_) (w' := wG V oa ad r1 r2 r3 am ou nY ix bu np st sr sx tk rn sh sn yw nw yo ce wo po ne cs sv mk sp rs bg dp 1 nY_ ix_ bu_ np_ st_ sr_ go_ ca_ nw_ yo_ ce_ wo_ po_ ne_ sv_ cl_ mk_ bg_ dp_ sh_ nx_ spn_) (mc := 0) (ms := 0) (As := [.int x, .int v]) (rest := []) E (fun _ h => h) 57 wG_am rfl (fi (pre := (oa, aX V ou) :: wC V ad r1 r2 r3 nY ix bu np st sr sx tk rn sh sn yw nw yo ce wo po ne cs sv mk sp rs bg dp) (Y_Mo_index l x v hY_ hb_)) (cs_La_91 E rfl rfl ⟨Nat.le_of_ble_eq_true rfl, Nat.le_of_ble_eq_true rfl⟩) rfl rfl (Nat.le_of_ble_eq_true rfl) ⟨by show _ ≤ 601024; omega, by show _ ≤ 7293000; omega⟩ d_La_law_180 ?_
  refine g_istore (lv' := [(6, .int (nI 0)), (5, .int (nI 1)), (4, .int (nI ti)), (3, .ref oa), (2, .ref (am 0)), (1, .ref (ad 0)), (0, .ref sb)]) E d_La_law_183 (by decide) rfl ?_
  refine g_aload_n E d_La_law_185 rfl 4 rfl ?_
  refine gpVi (As := []) (rest := []) E gO_w 57 wG_am rfl (fpi0 (pre := (oa, aX V ou) :: wC V ad r1 r2 r3 nY ix bu np st sr sx tk rn sh sn yw nw yo ce wo po ne cs sv mk sp rs bg dp) (C_Mo_thrown l)) (cs_La_92 E rfl rfl ⟨Nat.le_of_ble_eq_true rfl, Nat.le_of_ble_eq_true rfl⟩) rfl rfl (Nat.le_of_ble_eq_true rfl) ⟨by show _ ≤ 601024; omega, by show _ ≤ 7293000; omega⟩ d_La_law_186 ?_
  refine g_iload E d_La_law_189 1 rfl ?_
  refine g_ncmp_eq E 196 d_La_law_191 (by decide) (by omega) (by omega) (fun h1 => ?_) (fun h1 => ?_)
  · refine g_iload E d_La_law_196 1 rfl ?_
    refine g_nif_ne E 213 d_La_law_198 (by decide) (by decide) (fun _ => ?_) (fun h2 => absurd h2 (by decide))
    refine g_goto E 1527 d_La_law_213 (by decide) ?_
    refine g_lv [2, 3, 4, 5, 6] rfl ?_
    exact kk
  · exact absurd rfl h1

set_option maxHeartbeats 4000000 in
set_option maxRecDepth 100000 in
theorem K_budget_x {p : Program} {l : Launch} {e : Env} {s : State} {m : MethodId} {below : List Frame} {meth : Method} {c : Code} {V : gV} {sb LL ti cells slots : Nat} {xs : Nat → Int32} {oa : Nat} {am : Nat → Nat} {ou : Int64} {ad r1 r2 r3 : Nat → Nat} {nY : Nat} {ix bu : Nat → Nat} {np : Nat} {st sr : Nat → Nat} {sx tk : Nat → Nat → Nat} {rn sh sn : Nat → Nat} {yw nw : Nat} {yo ce wo : Nat → Nat} {po ne : Nat → Option Nat} {cs : Nat → Nat} {sv : Nat → Nat → Nat} {mk : Nat} {sp rs : Nat → Int} {bg dp : Nat} {th_ nY_ : Nat} {ix_ bu_ : Nat → Nat} {np_ : Nat} {st_ sr_ go_ ca_ : Nat → Nat} {nw_ : Nat} {yo_ ce_ wo_ : Nat → Nat} {po_ ne_ : Nat → Option Nat} {sv_ : Nat → Nat} {cl_ : Nat → Bool} {mk_ bg_ dp_ : Nat} {sh_ nx_ : Nat → Nat} {spn_ : Int} (E : gE p s m #[Value.ref sb] c code 8 R_La V) (hX : va_X sb LL xs s s.heap) (hbl : sb < s.heap.size) (hXJ : XJ s) (hfl : l.flags = flags0) (hL : LL ≤ 2561) (hiL : ti + 5 ≤ LL) (hcl : cells + 1 ≤ 601024) (hsl : slots + 6 ≤ 7293000) (x v : Int32) (hb : (inR x (nI nY) && inB v (nI 0) (nI 1000000000)) = false) (hY_ : nY_ ≤ 12) (hb_ : (inR x (nI nY_) && inB v (nI 0) (nI 1000000000)) = false) (hx1 : xs (ti + 1) = x) (hx2 : xs (ti + 2) = v)  (kk : gg p l e room_1 s m #[Value.ref sb] below meth c 8 (lw_Z below #[Value.ref sb] s) (cells + 1) (slots + 6) (gW V (fun q => s.heap.size ≤ q) s.heap (wG V oa ad r1 r2 r3 am ou nY ix bu np st sr sx tk rn sh sn yw nw yo ce wo po ne cs sv mk sp rs bg dp 1 nY_ ix_ bu_ np_ st_ sr_ go_ ca_ nw_ yo_ ce_ wo_ po_ ne_ sv_ cl_ mk_ bg_ dp_ sh_ nx_ spn_)) [(4, .int (nI ti)), (3, .ref oa), (2, .ref (am 0)), (1, .ref (ad 0)), (0, .ref sb)] 1527 []) : gg p l e room_1 s m #[Value.ref sb] below meth c 8 (lw_Z below #[Value.ref sb] s) cells slots (gW V (fun q => s.heap.size ≤ q) s.heap (wG V oa ad r1 r2 r3 am ou nY ix bu np st sr sx tk rn sh sn yw nw yo ce wo po ne cs sv mk sp rs bg dp th_ nY_ ix_ bu_ np_ st_ sr_ go_ ca_ nw_ yo_ ce_ wo_ po_ ne_ sv_ cl_ mk_ bg_ dp_ sh_ nx_ spn_)) [(4, .int (nI ti)), (3, .ref oa), (2, .ref (am 0)), (1, .ref (ad 0)), (0, .ref sb)] 216 [] := by
  refine g_aload_n E d_La_law_216 rfl 3 rfl ?_
  refine g_aload_n E d_La_law_217 rfl 4 rfl ?_
  refine g_iload E d_La_law_218 0 rfl ?_
  refine g_iconst (v := nI 1) E d_La_law_220 (by decide) ?_
  refine g_iadd E d_La_law_221 ?_
  refine g_topi (nI_add _ _) ?_
  refine g_scr E hX hbl (by omega) (by omega) d_La_law_222 ?_
  refine g_topi hx1 ?_
  refine g_aload_n E d_La_law_223 rfl 4 rfl ?_
  refine g_iload E d_La_law_224 0 rfl ?_
  refine g_iconst (v := nI 2) E d_La_law_226 (by decide) ?_
  refine g_iadd E d_La_law_227 ?_
  refine g_topi (nI_add _ _) ?_
  refine g_scr E hX hbl (by omega) (by omega) d_La_law_228 ?_
  refine g_topi hx2 ?_
  refine g_aload_n E d_La_law_229 rfl 1 rfl ?_
  refine gbLi (w := wG V oa ad r1 r2 r3 am ou nY ix bu np st sr sx tk rn sh sn yw nw yo ce wo po ne cs sv mk sp rs bg dp th_ nY_ ix_ bu_ np_ st_ sr_ go_ ca_ nw_ yo_ ce_ wo_ po_ ne_ sv_ cl_ mk_ bg_ dp_ sh_ nx_ spn_) (As := [.ref (ad 0), .int x, .int v, .ref oa]) (rest := []) E hXJ (fbi (post := wM V am th_ nY_ ix_ bu_ np_ st_ sr_ go_ ca_ nw_ yo_ ce_ wo_ po_ ne_ sv_ cl_ mk_ bg_ dp_ sh_ nx_ spn_) (B_CY_budget l hfl (oa := oa) (ou := ou) x v hb)) kc_La_budget kl_La_96 ks_La_budget kn_La kd_La_budget rfl rfl ⟨Nat.le_of_ble_eq_true rfl, Nat.le_of_ble_eq_true rfl⟩ rfl rfl (Nat.le_of_ble_eq_true rfl) ⟨by show _ ≤ 601024; omega, by show _ ≤ 7293000; omega⟩ d_La_law_230 ?_
  refine g_istore (lv' := [(5, .int (nI 1)), (4, .int (nI ti)), (3, .ref oa), (2, .ref (am 0)), (1, .ref (ad 0)), (0, .ref sb)]) E d_La_law_233 (by decide) rfl ?_
  refine g_aload_n E d_La_law_235 rfl 3 rfl ?_
  refine g_aload_n E d_La_law_236 rfl 5 rfl ?_
  refine g_iload E d_La_law_237 1 rfl ?_
  refine g_iconst (v := nI 1) E d_La_law_239 (by decide) ?_
  refine g_iadd E d_La_law_240 ?_
  refine g_topi (nI_add _ _) ?_
  refine g_scr E hX hbl (by omega) (by omega) d_La_law_241 ?_
  refine g_topi hx1 ?_
  refine g_aload_n E d_La_law_242 rfl 5 rfl ?_
  refine g_iload E d_La_law_243 1 rfl ?_
  refine g_iconst (v := nI 2) E d_La_law_245 (by decide) ?_
  refine g_iadd E d_La_law_246 ?_
  refine g_topi (nI_add _ _) ?_
  refine g_scr E hX hbl (by omega) (by omega) d_La_law_247 ?_
  refine g_topi hx2 ?_
  refine gwVi (w := wG V oa ad r1 r2 r3 am ou nY ix bu np st sr sx tk rn sh sn yw nw yo ce wo po ne cs sv mk sp rs bg dp th_ nY_ ix_ bu_ np_ st_ sr_ go_ ca_ nw_ yo_ ce_ wo_ po_ ne_ sv_ cl_ mk_ bg_ dp_ sh_ nx_ spn_) (w' := wG V oa ad r1 r2 r3 am ou nY ix bu np st sr sx tk rn sh sn yw nw yo ce wo po ne cs sv mk sp rs bg dp 1 nY_ ix_ bu_ np_ st_ sr_ go_ ca_ nw_ yo_ ce_ wo_ po_ ne_ sv_ cl_ mk_ bg_ dp_ sh_ nx_ spn_) (mc := 0) (ms := 0) (As := [.int x, .int v]) (rest := []) E (fun _ h => h) 57 wG_am rfl (fi (pre := (oa, aX V ou) :: wC V ad r1 r2 r3 nY ix bu np st sr sx tk rn sh sn yw nw yo ce wo po ne cs sv mk sp rs bg dp) (Y_Mo_budget l x v hY_ hb_)) (cs_La_98 E rfl rfl ⟨Nat.le_of_ble_eq_true rfl, Nat.le_of_ble_eq_true rfl⟩) rfl rfl (Nat.le_of_ble_eq_true rfl) ⟨by show _ ≤ 601024; omega, by show _ ≤ 7293000; omega⟩ d_La_law_248 ?_
  refine g_istore (lv' := [(6, .int (nI 0)), (5, .int (nI 1)), (4, .int (nI ti)), (3, .ref oa), (2, .ref (am 0)), (1, .ref (ad 0)), (0, .ref sb)]) E d_La_law_251 (by decide) rfl ?_
  refine g_aload_n E d_La_law_253 rfl 4 rfl ?_
  refine gpVi (As := []) (rest := []) E gO_w 57 wG_am rfl (fpi0 (pre := (oa, aX V ou) :: wC V ad r1 r2 r3 nY ix bu np st sr sx tk rn sh sn yw nw yo ce wo po ne cs sv mk sp rs bg dp) (C_Mo_thrown l)) (cs_La_92 E rfl rfl ⟨Nat.le_of_ble_eq_true rfl, Nat.le_of_ble_eq_true rfl⟩) rfl rfl (Nat.le_of_ble_eq_true rfl) ⟨by show _ ≤ 601024; omega, by show _ ≤ 7293000; omega⟩ d_La_law_254 ?_
  refine g_iload E d_La_law_257 1 rfl ?_
  refine g_ncmp_eq E 264 d_La_law_259 (by decide) (by omega) (by omega) (fun h1 => ?_) (fun h1 => ?_)
  · refine g_iload E d_La_law_264 1 rfl ?_
    refine g_nif_ne E 281 d_La_law_266 (by decide) (by decide) (fun _ => ?_) (fun h2 => absurd h2 (by decide))
    refine g_goto E 1527 d_La_law_281 (by decide) ?_
    refine g_lv [2, 3, 4, 5, 6] rfl ?_
    exact kk
  · exact absurd rfl h1

set_option maxHeartbeats 4000000 in
set_option maxRecDepth 100000 in
theorem K_part_1_x {p : Program} {l : Launch} {e : Env} {s : State} {m : MethodId} {below : List Frame} {meth : Method} {c : Code} {V : gV} {sb LL ti cells slots : Nat} {xs : Nat → Int32} {oa : Nat} {am : Nat → Nat} {ou : Int64} {ad r1 r2 r3 : Nat → Nat} {nY : Nat} {ix bu : Nat → Nat} {np : Nat} {st sr : Nat → Nat} {sx tk : Nat → Nat → Nat} {rn sh sn : Nat → Nat} {yw nw : Nat} {yo ce wo : Nat → Nat} {po ne : Nat → Option Nat} {cs : Nat → Nat} {sv : Nat → Nat → Nat} {mk : Nat} {sp rs : Nat → Int} {bg dp : Nat} {th_ nY_ : Nat} {ix_ bu_ : Nat → Nat} {np_ : Nat} {st_ sr_ go_ ca_ : Nat → Nat} {nw_ : Nat} {yo_ ce_ wo_ : Nat → Nat} {po_ ne_ : Nat → Option Nat} {sv_ : Nat → Nat} {cl_ : Nat → Bool} {mk_ bg_ dp_ : Nat} {sh_ nx_ : Nat → Nat} {spn_ : Int} (E : gE p s m #[Value.ref sb] c code 8 R_La V) (hX : va_X sb LL xs s s.heap) (hbl : sb < s.heap.size) (hXJ : XJ s) (hfl : l.flags = flags0) (hL : LL ≤ 2561) (hiL : ti + 5 ≤ LL) (hcl : cells + 1 ≤ 601024) (hsl : slots + 6 ≤ 7293000) (k r : Int32) (hb : inB k (nI 2) (nI 4) = false) (hb_ : inB k (nI 2) (nI 4) = false) (hx1 : xs (ti + 1) = k) (hx2 : xs (ti + 2) = r)  (kk : gg p l e room_1 s m #[Value.ref sb] below meth c 8 (lw_Z below #[Value.ref sb] s) (cells + 1) (slots + 6) (gW V (fun q => s.heap.size ≤ q) s.heap (wG V oa ad r1 r2 r3 am ou nY ix bu np st sr sx tk rn sh sn yw nw yo ce wo po ne cs sv mk sp rs bg dp 1 nY_ ix_ bu_ np_ st_ sr_ go_ ca_ nw_ yo_ ce_ wo_ po_ ne_ sv_ cl_ mk_ bg_ dp_ sh_ nx_ spn_)) [(4, .int (nI ti)), (3, .ref oa), (2, .ref (am 0)), (1, .ref (ad 0)), (0, .ref sb)] 1527 []) : gg p l e room_1 s m #[Value.ref sb] below meth c 8 (lw_Z below #[Value.ref sb] s) cells slots (gW V (fun q => s.heap.size ≤ q) s.heap (wG V oa ad r1 r2 r3 am ou nY ix bu np st sr sx tk rn sh sn yw nw yo ce wo po ne cs sv mk sp rs bg dp th_ nY_ ix_ bu_ np_ st_ sr_ go_ ca_ nw_ yo_ ce_ wo_ po_ ne_ sv_ cl_ mk_ bg_ dp_ sh_ nx_ spn_)) [(4, .int (nI ti)), (3, .ref oa), (2, .ref (am 0)), (1, .ref (ad 0)), (0, .ref sb)] 284 [] := by
  refine g_aload_n E d_La_law_284 rfl 3 rfl ?_
  refine g_aload_n E d_La_law_285 rfl 4 rfl ?_
  refine g_iload E d_La_law_286 0 rfl ?_
  refine g_iconst (v := nI 1) E d_La_law_288 (by decide) ?_
  refine g_iadd E d_La_law_289 ?_
  refine g_topi (nI_add _ _) ?_
  refine g_scr E hX hbl (by omega) (by omega) d_La_law_290 ?_
  refine g_topi hx1 ?_
  refine g_aload_n E d_La_law_291 rfl 4 rfl ?_
  refine g_iload E d_La_law_292 0 rfl ?_
  refine g_iconst (v := nI 2) E d_La_law_294 (by decide) ?_
  refine g_iadd E d_La_law_295 ?_
  refine g_topi (nI_add _ _) ?_
  refine g_scr E hX hbl (by omega) (by omega) d_La_law_296 ?_
  refine g_topi hx2 ?_
  refine g_aload_n E d_La_law_297 rfl 1 rfl ?_
  refine gbLi (w := wG V oa ad r1 r2 r3 am ou nY ix bu np st sr sx tk rn sh sn yw nw yo ce wo po ne cs sv mk sp rs bg dp th_ nY_ ix_ bu_ np_ st_ sr_ go_ ca_ nw_ yo_ ce_ wo_ po_ ne_ sv_ cl_ mk_ bg_ dp_ sh_ nx_ spn_) (As := [.ref (ad 0), .int k, .int r, .ref oa]) (rest := []) E hXJ (fbi (post := wM V am th_ nY_ ix_ bu_ np_ st_ sr_ go_ ca_ nw_ yo_ ce_ wo_ po_ ne_ sv_ cl_ mk_ bg_ dp_ sh_ nx_ spn_) (B_CY_part_1 l hfl (oa := oa) (ou := ou) k r hb)) kc_La_part kl_La_99 ks_La_part kn_La kd_La_part rfl rfl ⟨Nat.le_of_ble_eq_true rfl, Nat.le_of_ble_eq_true rfl⟩ rfl rfl (Nat.le_of_ble_eq_true rfl) ⟨by show _ ≤ 601024; omega, by show _ ≤ 7293000; omega⟩ d_La_law_298 ?_
  refine g_istore (lv' := [(5, .int (nI 1)), (4, .int (nI ti)), (3, .ref oa), (2, .ref (am 0)), (1, .ref (ad 0)), (0, .ref sb)]) E d_La_law_301 (by decide) rfl ?_
  refine g_aload_n E d_La_law_303 rfl 3 rfl ?_
  refine g_aload_n E d_La_law_304 rfl 5 rfl ?_
  refine g_iload E d_La_law_305 1 rfl ?_
  refine g_iconst (v := nI 1) E d_La_law_307 (by decide) ?_
  refine g_iadd E d_La_law_308 ?_
  refine g_topi (nI_add _ _) ?_
  refine g_scr E hX hbl (by omega) (by omega) d_La_law_309 ?_
  refine g_topi hx1 ?_
  refine g_aload_n E d_La_law_310 rfl 5 rfl ?_
  refine g_iload E d_La_law_311 1 rfl ?_
  refine g_iconst (v := nI 2) E d_La_law_313 (by decide) ?_
  refine g_iadd E d_La_law_314 ?_
  refine g_topi (nI_add _ _) ?_
  refine g_scr E hX hbl (by omega) (by omega) d_La_law_315 ?_
  refine g_topi hx2 ?_
  refine gwVi (w := wG V oa ad r1 r2 r3 am ou nY ix bu np st sr sx tk rn sh sn yw nw yo ce wo po ne cs sv mk sp rs bg dp th_ nY_ ix_ bu_ np_ st_ sr_ go_ ca_ nw_ yo_ ce_ wo_ po_ ne_ sv_ cl_ mk_ bg_ dp_ sh_ nx_ spn_) (w' := wG V oa ad r1 r2 r3 am ou nY ix bu np st sr sx tk rn sh sn yw nw yo ce wo po ne cs sv mk sp rs bg dp 1 nY_ ix_ bu_ np_ st_ sr_ go_ ca_ nw_ yo_ ce_ wo_ po_ ne_ sv_ cl_ mk_ bg_ dp_ sh_ nx_ spn_) (mc := 0) (ms := 0) (As := [.int k, .int r]) (rest := []) E (fun _ h => h) 57 wG_am rfl (fi (pre := (oa, aX V ou) :: wC V ad r1 r2 r3 nY ix bu np st sr sx tk rn sh sn yw nw yo ce wo po ne cs sv mk sp rs bg dp) (Y_Mo_part_1 l k r hb_)) (cs_La_101 E rfl rfl ⟨Nat.le_of_ble_eq_true rfl, Nat.le_of_ble_eq_true rfl⟩) rfl rfl (Nat.le_of_ble_eq_true rfl) ⟨by show _ ≤ 601024; omega, by show _ ≤ 7293000; omega⟩ d_La_law_316 ?_
  refine g_istore (lv' := [(6, .int (nI 0)), (5, .int (nI 1)), (4, .int (nI ti)), (3, .ref oa), (2, .ref (am 0)), (1, .ref (ad 0)), (0, .ref sb)]) E d_La_law_319 (by decide) rfl ?_
  refine g_aload_n E d_La_law_321 rfl 4 rfl ?_
  refine gpVi (As := []) (rest := []) E gO_w 57 wG_am rfl (fpi0 (pre := (oa, aX V ou) :: wC V ad r1 r2 r3 nY ix bu np st sr sx tk rn sh sn yw nw yo ce wo po ne cs sv mk sp rs bg dp) (C_Mo_thrown l)) (cs_La_92 E rfl rfl ⟨Nat.le_of_ble_eq_true rfl, Nat.le_of_ble_eq_true rfl⟩) rfl rfl (Nat.le_of_ble_eq_true rfl) ⟨by show _ ≤ 601024; omega, by show _ ≤ 7293000; omega⟩ d_La_law_322 ?_
  refine g_iload E d_La_law_325 1 rfl ?_
  refine g_ncmp_eq E 332 d_La_law_327 (by decide) (by omega) (by omega) (fun h1 => ?_) (fun h1 => ?_)
  · refine g_iload E d_La_law_332 1 rfl ?_
    refine g_nif_ne E 349 d_La_law_334 (by decide) (by decide) (fun _ => ?_) (fun h2 => absurd h2 (by decide))
    refine g_goto E 1527 d_La_law_349 (by decide) ?_
    refine g_lv [2, 3, 4, 5, 6] rfl ?_
    exact kk
  · exact absurd rfl h1

set_option maxHeartbeats 4000000 in
set_option maxRecDepth 100000 in
theorem K_part_2_x {p : Program} {l : Launch} {e : Env} {s : State} {m : MethodId} {below : List Frame} {meth : Method} {c : Code} {V : gV} {sb LL ti cells slots : Nat} {xs : Nat → Int32} {oa : Nat} {am : Nat → Nat} {ou : Int64} {ad r1 r2 r3 : Nat → Nat} {nY : Nat} {ix bu : Nat → Nat} {np : Nat} {st sr : Nat → Nat} {sx tk : Nat → Nat → Nat} {rn sh sn : Nat → Nat} {yw nw : Nat} {yo ce wo : Nat → Nat} {po ne : Nat → Option Nat} {cs : Nat → Nat} {sv : Nat → Nat → Nat} {mk : Nat} {sp rs : Nat → Int} {bg dp : Nat} {th_ nY_ : Nat} {ix_ bu_ : Nat → Nat} {np_ : Nat} {st_ sr_ go_ ca_ : Nat → Nat} {nw_ : Nat} {yo_ ce_ wo_ : Nat → Nat} {po_ ne_ : Nat → Option Nat} {sv_ : Nat → Nat} {cl_ : Nat → Bool} {mk_ bg_ dp_ : Nat} {sh_ nx_ : Nat → Nat} {spn_ : Int} (E : gE p s m #[Value.ref sb] c code 8 R_La V) (hX : va_X sb LL xs s s.heap) (hbl : sb < s.heap.size) (hXJ : XJ s) (hfl : l.flags = flags0) (hL : LL ≤ 2561) (hiL : ti + 5 ≤ LL) (hcl : cells + 1 ≤ 601024) (hsl : slots + 6 ≤ 7293000) (k : Nat) (r : Int32) (h1 : 2 ≤ k) (h2 : k ≤ 4) (hb : inB r (nI 0) (nI (k - 1)) = false) (h1_ : 2 ≤ k) (h2_ : k ≤ 4) (hb_ : inB r (nI 0) (nI (k - 1)) = false) (hx1 : xs (ti + 1) = nI k) (hx2 : xs (ti + 2) = r)  (kk : gg p l e room_1 s m #[Value.ref sb] below meth c 8 (lw_Z below #[Value.ref sb] s) (cells + 1) (slots + 6) (gW V (fun q => s.heap.size ≤ q) s.heap (wG V oa ad r1 r2 r3 am ou nY ix bu np st sr sx tk rn sh sn yw nw yo ce wo po ne cs sv mk sp rs bg dp 1 nY_ ix_ bu_ np_ st_ sr_ go_ ca_ nw_ yo_ ce_ wo_ po_ ne_ sv_ cl_ mk_ bg_ dp_ sh_ nx_ spn_)) [(4, .int (nI ti)), (3, .ref oa), (2, .ref (am 0)), (1, .ref (ad 0)), (0, .ref sb)] 1527 []) : gg p l e room_1 s m #[Value.ref sb] below meth c 8 (lw_Z below #[Value.ref sb] s) cells slots (gW V (fun q => s.heap.size ≤ q) s.heap (wG V oa ad r1 r2 r3 am ou nY ix bu np st sr sx tk rn sh sn yw nw yo ce wo po ne cs sv mk sp rs bg dp th_ nY_ ix_ bu_ np_ st_ sr_ go_ ca_ nw_ yo_ ce_ wo_ po_ ne_ sv_ cl_ mk_ bg_ dp_ sh_ nx_ spn_)) [(4, .int (nI ti)), (3, .ref oa), (2, .ref (am 0)), (1, .ref (ad 0)), (0, .ref sb)] 284 [] := by
  refine g_aload_n E d_La_law_284 rfl 3 rfl ?_
  refine g_aload_n E d_La_law_285 rfl 4 rfl ?_
  refine g_iload E d_La_law_286 0 rfl ?_
  refine g_iconst (v := nI 1) E d_La_law_288 (by decide) ?_
  refine g_iadd E d_La_law_289 ?_
  refine g_topi (nI_add _ _) ?_
  refine g_scr E hX hbl (by omega) (by omega) d_La_law_290 ?_
  refine g_topi hx1 ?_
  refine g_aload_n E d_La_law_291 rfl 4 rfl ?_
  refine g_iload E d_La_law_292 0 rfl ?_
  refine g_iconst (v := nI 2) E d_La_law_294 (by decide) ?_
  refine g_iadd E d_La_law_295 ?_
  refine g_topi (nI_add _ _) ?_
  refine g_scr E hX hbl (by omega) (by omega) d_La_law_296 ?_
  refine g_topi hx2 ?_
  refine g_aload_n E d_La_law_297 rfl 1 rfl ?_
  refine gbLi (w := wG V oa ad r1 r2 r3 am ou nY ix bu np st sr sx tk rn sh sn yw nw yo ce wo po ne cs sv mk sp rs bg dp th_ nY_ ix_ bu_ np_ st_ sr_ go_ ca_ nw_ yo_ ce_ wo_ po_ ne_ sv_ cl_ mk_ bg_ dp_ sh_ nx_ spn_) (As := [.ref (ad 0), .int (nI k), .int r, .ref oa]) (rest := []) E hXJ (fbi (post := wM V am th_ nY_ ix_ bu_ np_ st_ sr_ go_ ca_ nw_ yo_ ce_ wo_ po_ ne_ sv_ cl_ mk_ bg_ dp_ sh_ nx_ spn_) (B_CY_part_2 l hfl (oa := oa) (ou := ou) k r h1 h2 hb)) kc_La_part kl_La_99 ks_La_part kn_La kd_La_part rfl rfl ⟨Nat.le_of_ble_eq_true rfl, Nat.le_of_ble_eq_true rfl⟩ rfl rfl (Nat.le_of_ble_eq_true rfl) ⟨by show _ ≤ 601024; omega, by show _ ≤ 7293000; omega⟩ d_La_law_298 ?_
  refine g_istore (lv' := [(5, .int (nI 1)), (4, .int (nI ti)), (3, .ref oa), (2, .ref (am 0)), (1, .ref (ad 0)), (0, .ref sb)]) E d_La_law_301 (by decide) rfl ?_
  refine g_aload_n E d_La_law_303 rfl 3 rfl ?_
  refine g_aload_n E d_La_law_304 rfl 5 rfl ?_
  refine g_iload E d_La_law_305 1 rfl ?_
  refine g_iconst (v := nI 1) E d_La_law_307 (by decide) ?_
  refine g_iadd E d_La_law_308 ?_
  refine g_topi (nI_add _ _) ?_
  refine g_scr E hX hbl (by omega) (by omega) d_La_law_309 ?_
  refine g_topi hx1 ?_
  refine g_aload_n E d_La_law_310 rfl 5 rfl ?_
  refine g_iload E d_La_law_311 1 rfl ?_
  refine g_iconst (v := nI 2) E d_La_law_313 (by decide) ?_
  refine g_iadd E d_La_law_314 ?_
  refine g_topi (nI_add _ _) ?_
  refine g_scr E hX hbl (by omega) (by omega) d_La_law_315 ?_
  refine g_topi hx2 ?_
  refine gwVi (w := wG V oa ad r1 r2 r3 am ou nY ix bu np st sr sx tk rn sh sn yw nw yo ce wo po ne cs sv mk sp rs bg dp th_ nY_ ix_ bu_ np_ st_ sr_ go_ ca_ nw_ yo_ ce_ wo_ po_ ne_ sv_ cl_ mk_ bg_ dp_ sh_ nx_ spn_) (w' := wG V oa ad r1 r2 r3 am ou nY ix bu np st sr sx tk rn sh sn yw nw yo ce wo po ne cs sv mk sp rs bg dp 1 nY_ ix_ bu_ np_ st_ sr_ go_ ca_ nw_ yo_ ce_ wo_ po_ ne_ sv_ cl_ mk_ bg_ dp_ sh_ nx_ spn_) (mc := 0) (ms := 0) (As := [.int (nI k), .int r]) (rest := []) E (fun _ h => h) 57 wG_am rfl (fi (pre := (oa, aX V ou) :: wC V ad r1 r2 r3 nY ix bu np st sr sx tk rn sh sn yw nw yo ce wo po ne cs sv mk sp rs bg dp) (Y_Mo_part_2 l k r h1_ h2_ hb_)) (cs_La_101 E rfl rfl ⟨Nat.le_of_ble_eq_true rfl, Nat.le_of_ble_eq_true rfl⟩) rfl rfl (Nat.le_of_ble_eq_true rfl) ⟨by show _ ≤ 601024; omega, by show _ ≤ 7293000; omega⟩ d_La_law_316 ?_
  refine g_istore (lv' := [(6, .int (nI 0)), (5, .int (nI 1)), (4, .int (nI ti)), (3, .ref oa), (2, .ref (am 0)), (1, .ref (ad 0)), (0, .ref sb)]) E d_La_law_319 (by decide) rfl ?_
  refine g_aload_n E d_La_law_321 rfl 4 rfl ?_
  refine gpVi (As := []) (rest := []) E gO_w 57 wG_am rfl (fpi0 (pre := (oa, aX V ou) :: wC V ad r1 r2 r3 nY ix bu np st sr sx tk rn sh sn yw nw yo ce wo po ne cs sv mk sp rs bg dp) (C_Mo_thrown l)) (cs_La_92 E rfl rfl ⟨Nat.le_of_ble_eq_true rfl, Nat.le_of_ble_eq_true rfl⟩) rfl rfl (Nat.le_of_ble_eq_true rfl) ⟨by show _ ≤ 601024; omega, by show _ ≤ 7293000; omega⟩ d_La_law_322 ?_
  refine g_iload E d_La_law_325 1 rfl ?_
  refine g_ncmp_eq E 332 d_La_law_327 (by decide) (by omega) (by omega) (fun h1 => ?_) (fun h1 => ?_)
  · refine g_iload E d_La_law_332 1 rfl ?_
    refine g_nif_ne E 349 d_La_law_334 (by decide) (by decide) (fun _ => ?_) (fun h2 => absurd h2 (by decide))
    refine g_goto E 1527 d_La_law_349 (by decide) ?_
    refine g_lv [2, 3, 4, 5, 6] rfl ?_
    exact kk
  · exact absurd rfl h1

set_option maxHeartbeats 4000000 in
set_option maxRecDepth 100000 in
theorem K_part_3_x {p : Program} {l : Launch} {e : Env} {s : State} {m : MethodId} {below : List Frame} {meth : Method} {c : Code} {V : gV} {sb LL ti cells slots : Nat} {xs : Nat → Int32} {oa : Nat} {am : Nat → Nat} {ou : Int64} {ad r1 r2 r3 : Nat → Nat} {nY : Nat} {ix bu : Nat → Nat} {np : Nat} {st sr : Nat → Nat} {sx tk : Nat → Nat → Nat} {rn sh sn : Nat → Nat} {yw nw : Nat} {yo ce wo : Nat → Nat} {po ne : Nat → Option Nat} {cs : Nat → Nat} {sv : Nat → Nat → Nat} {mk : Nat} {sp rs : Nat → Int} {bg dp : Nat} {th_ nY_ : Nat} {ix_ bu_ : Nat → Nat} {np_ : Nat} {st_ sr_ go_ ca_ : Nat → Nat} {nw_ : Nat} {yo_ ce_ wo_ : Nat → Nat} {po_ ne_ : Nat → Option Nat} {sv_ : Nat → Nat} {cl_ : Nat → Bool} {mk_ bg_ dp_ : Nat} {sh_ nx_ : Nat → Nat} {spn_ : Int} (E : gE p s m #[Value.ref sb] c code 8 R_La V) (hX : va_X sb LL xs s s.heap) (hbl : sb < s.heap.size) (hXJ : XJ s) (hfl : l.flags = flags0) (hL : LL ≤ 2561) (hiL : ti + 5 ≤ LL) (hcl : cells + 1 ≤ 601024) (hsl : slots + 6 ≤ 7293000) (k r : Nat) (h1 : 2 ≤ k) (h2 : k ≤ 4) (h3 : r < k) (hnp : np = 12) (h1_ : 2 ≤ k) (h2_ : k ≤ 4) (h3_ : r < k) (hnp_ : np_ = 12) (hx1 : xs (ti + 1) = nI k) (hx2 : xs (ti + 2) = nI r)  (kk : gg p l e room_1 s m #[Value.ref sb] below meth c 8 (lw_Z below #[Value.ref sb] s) (cells + 1) (slots + 6) (gW V (fun q => s.heap.size ≤ q) s.heap (wG V oa ad r1 r2 r3 am ou nY ix bu np st sr sx tk rn sh sn yw nw yo ce wo po ne cs sv mk sp rs bg dp 2 nY_ ix_ bu_ np_ st_ sr_ go_ ca_ nw_ yo_ ce_ wo_ po_ ne_ sv_ cl_ mk_ bg_ dp_ sh_ nx_ spn_)) [(4, .int (nI ti)), (3, .ref oa), (2, .ref (am 0)), (1, .ref (ad 0)), (0, .ref sb)] 1527 []) : gg p l e room_1 s m #[Value.ref sb] below meth c 8 (lw_Z below #[Value.ref sb] s) cells slots (gW V (fun q => s.heap.size ≤ q) s.heap (wG V oa ad r1 r2 r3 am ou nY ix bu np st sr sx tk rn sh sn yw nw yo ce wo po ne cs sv mk sp rs bg dp th_ nY_ ix_ bu_ np_ st_ sr_ go_ ca_ nw_ yo_ ce_ wo_ po_ ne_ sv_ cl_ mk_ bg_ dp_ sh_ nx_ spn_)) [(4, .int (nI ti)), (3, .ref oa), (2, .ref (am 0)), (1, .ref (ad 0)), (0, .ref sb)] 284 [] := by
  refine g_aload_n E d_La_law_284 rfl 3 rfl ?_
  refine g_aload_n E d_La_law_285 rfl 4 rfl ?_
  refine g_iload E d_La_law_286 0 rfl ?_
  refine g_iconst (v := nI 1) E d_La_law_288 (by decide) ?_
  refine g_iadd E d_La_law_289 ?_
  refine g_topi (nI_add _ _) ?_
  refine g_scr E hX hbl (by omega) (by omega) d_La_law_290 ?_
  refine g_topi hx1 ?_
  refine g_aload_n E d_La_law_291 rfl 4 rfl ?_
  refine g_iload E d_La_law_292 0 rfl ?_
  refine g_iconst (v := nI 2) E d_La_law_294 (by decide) ?_
  refine g_iadd E d_La_law_295 ?_
  refine g_topi (nI_add _ _) ?_
  refine g_scr E hX hbl (by omega) (by omega) d_La_law_296 ?_
  refine g_topi hx2 ?_
  refine g_aload_n E d_La_law_297 rfl 1 rfl ?_
  refine gbLi (w := wG V oa ad r1 r2 r3 am ou nY ix bu np st sr sx tk rn sh sn yw nw yo ce wo po ne cs sv mk sp rs bg dp th_ nY_ ix_ bu_ np_ st_ sr_ go_ ca_ nw_ yo_ ce_ wo_ po_ ne_ sv_ cl_ mk_ bg_ dp_ sh_ nx_ spn_) (As := [.ref (ad 0), .int (nI k), .int (nI r), .ref oa]) (rest := []) E hXJ (fbi (post := wM V am th_ nY_ ix_ bu_ np_ st_ sr_ go_ ca_ nw_ yo_ ce_ wo_ po_ ne_ sv_ cl_ mk_ bg_ dp_ sh_ nx_ spn_) (B_CY_part_3 l hfl (oa := oa) (ou := ou) k r h1 h2 h3 hnp)) kc_La_part kl_La_99 ks_La_part kn_La kd_La_part rfl rfl ⟨Nat.le_of_ble_eq_true rfl, Nat.le_of_ble_eq_true rfl⟩ rfl rfl (Nat.le_of_ble_eq_true rfl) ⟨by show _ ≤ 601024; omega, by show _ ≤ 7293000; omega⟩ d_La_law_298 ?_
  refine g_istore (lv' := [(5, .int (nI 2)), (4, .int (nI ti)), (3, .ref oa), (2, .ref (am 0)), (1, .ref (ad 0)), (0, .ref sb)]) E d_La_law_301 (by decide) rfl ?_
  refine g_aload_n E d_La_law_303 rfl 3 rfl ?_
  refine g_aload_n E d_La_law_304 rfl 5 rfl ?_
  refine g_iload E d_La_law_305 1 rfl ?_
  refine g_iconst (v := nI 1) E d_La_law_307 (by decide) ?_
  refine g_iadd E d_La_law_308 ?_
  refine g_topi (nI_add _ _) ?_
  refine g_scr E hX hbl (by omega) (by omega) d_La_law_309 ?_
  refine g_topi hx1 ?_
  refine g_aload_n E d_La_law_310 rfl 5 rfl ?_
  refine g_iload E d_La_law_311 1 rfl ?_
  refine g_iconst (v := nI 2) E d_La_law_313 (by decide) ?_
  refine g_iadd E d_La_law_314 ?_
  refine g_topi (nI_add _ _) ?_
  refine g_scr E hX hbl (by omega) (by omega) d_La_law_315 ?_
  refine g_topi hx2 ?_
  refine gwVi (w := wG V oa ad r1 r2 r3 am ou nY ix bu np st sr sx tk rn sh sn yw nw yo ce wo po ne cs sv mk sp rs bg dp th_ nY_ ix_ bu_ np_ st_ sr_ go_ ca_ nw_ yo_ ce_ wo_ po_ ne_ sv_ cl_ mk_ bg_ dp_ sh_ nx_ spn_) (w' := wG V oa ad r1 r2 r3 am ou nY ix bu np st sr sx tk rn sh sn yw nw yo ce wo po ne cs sv mk sp rs bg dp 2 nY_ ix_ bu_ np_ st_ sr_ go_ ca_ nw_ yo_ ce_ wo_ po_ ne_ sv_ cl_ mk_ bg_ dp_ sh_ nx_ spn_) (mc := 0) (ms := 0) (As := [.int (nI k), .int (nI r)]) (rest := []) E (fun _ h => h) 57 wG_am rfl (fi (pre := (oa, aX V ou) :: wC V ad r1 r2 r3 nY ix bu np st sr sx tk rn sh sn yw nw yo ce wo po ne cs sv mk sp rs bg dp) (Y_Mo_part_3 l k r h1_ h2_ h3_ hnp_)) (cs_La_101 E rfl rfl ⟨Nat.le_of_ble_eq_true rfl, Nat.le_of_ble_eq_true rfl⟩) rfl rfl (Nat.le_of_ble_eq_true rfl) ⟨by show _ ≤ 601024; omega, by show _ ≤ 7293000; omega⟩ d_La_law_316 ?_
  refine g_istore (lv' := [(6, .int (nI 0)), (5, .int (nI 2)), (4, .int (nI ti)), (3, .ref oa), (2, .ref (am 0)), (1, .ref (ad 0)), (0, .ref sb)]) E d_La_law_319 (by decide) rfl ?_
  refine g_aload_n E d_La_law_321 rfl 4 rfl ?_
  refine gpVi (As := []) (rest := []) E gO_w 57 wG_am rfl (fpi0 (pre := (oa, aX V ou) :: wC V ad r1 r2 r3 nY ix bu np st sr sx tk rn sh sn yw nw yo ce wo po ne cs sv mk sp rs bg dp) (C_Mo_thrown l)) (cs_La_92 E rfl rfl ⟨Nat.le_of_ble_eq_true rfl, Nat.le_of_ble_eq_true rfl⟩) rfl rfl (Nat.le_of_ble_eq_true rfl) ⟨by show _ ≤ 601024; omega, by show _ ≤ 7293000; omega⟩ d_La_law_322 ?_
  refine g_iload E d_La_law_325 1 rfl ?_
  refine g_ncmp_eq E 332 d_La_law_327 (by decide) (by omega) (by omega) (fun h1 => ?_) (fun h1 => ?_)
  · refine g_iload E d_La_law_332 1 rfl ?_
    refine g_nif_ne E 349 d_La_law_334 (by decide) (by decide) (fun _ => ?_) (fun h2 => absurd h2 (by decide))
    refine g_goto E 1527 d_La_law_349 (by decide) ?_
    refine g_lv [2, 3, 4, 5, 6] rfl ?_
    exact kk
  · exact absurd rfl h1

set_option maxHeartbeats 4000000 in
set_option maxRecDepth 100000 in
theorem K_moves_1_x {p : Program} {l : Launch} {e : Env} {s : State} {m : MethodId} {below : List Frame} {meth : Method} {c : Code} {V : gV} {sb LL ti cells slots : Nat} {xs : Nat → Int32} {oa : Nat} {am : Nat → Nat} {ou : Int64} {ad r1 r2 r3 : Nat → Nat} {nY : Nat} {ix bu : Nat → Nat} {np : Nat} {st sr : Nat → Nat} {sx tk : Nat → Nat → Nat} {rn sh sn : Nat → Nat} {yw nw : Nat} {yo ce wo : Nat → Nat} {po ne : Nat → Option Nat} {cs : Nat → Nat} {sv : Nat → Nat → Nat} {mk : Nat} {sp rs : Nat → Int} {bg dp : Nat} {th_ nY_ : Nat} {ix_ bu_ : Nat → Nat} {np_ : Nat} {st_ sr_ go_ ca_ : Nat → Nat} {nw_ : Nat} {yo_ ce_ wo_ : Nat → Nat} {po_ ne_ : Nat → Option Nat} {sv_ : Nat → Nat} {cl_ : Nat → Bool} {mk_ bg_ dp_ : Nat} {sh_ nx_ : Nat → Nat} {spn_ : Int} (E : gE p s m #[Value.ref sb] c code 8 R_La V) (hX : va_X sb LL xs s s.heap) (hbl : sb < s.heap.size) (hXJ : XJ s) (hfl : l.flags = flags0) (hL : LL ≤ 2561) (hiL : ti + 5 ≤ LL) (hcl : cells + 1 ≤ 601024) (hsl : slots + 6 ≤ 7293000) (x a b v : Int32) (hnp : np ≤ 12) (hb : (hasSt np st x a && hasSt np st x b && !decide (a = b)) = false) (hnp_ : np_ ≤ 12) (hst_ : ∀ i, st_ i ≤ 4) (hb_ : (hasSt np_ st_ x a && hasSt np_ st_ x b && !decide (a = b)) = false) (hx1 : xs (ti + 1) = x) (hx2 : xs (ti + 2) = a) (hx3 : xs (ti + 3) = b) (hx4 : xs (ti + 4) = v)  (kk : gg p l e room_1 s m #[Value.ref sb] below meth c 8 (lw_Z below #[Value.ref sb] s) (cells + 1) (slots + 6) (gW V (fun q => s.heap.size ≤ q) s.heap (wG V oa ad r1 r2 r3 am ou nY ix bu np st sr sx tk rn sh sn yw nw yo ce wo po ne cs sv mk sp rs bg dp 1 nY_ ix_ bu_ np_ st_ sr_ go_ ca_ nw_ yo_ ce_ wo_ po_ ne_ sv_ cl_ mk_ bg_ dp_ sh_ nx_ spn_)) [(4, .int (nI ti)), (3, .ref oa), (2, .ref (am 0)), (1, .ref (ad 0)), (0, .ref sb)] 1527 []) : gg p l e room_1 s m #[Value.ref sb] below meth c 8 (lw_Z below #[Value.ref sb] s) cells slots (gW V (fun q => s.heap.size ≤ q) s.heap (wG V oa ad r1 r2 r3 am ou nY ix bu np st sr sx tk rn sh sn yw nw yo ce wo po ne cs sv mk sp rs bg dp th_ nY_ ix_ bu_ np_ st_ sr_ go_ ca_ nw_ yo_ ce_ wo_ po_ ne_ sv_ cl_ mk_ bg_ dp_ sh_ nx_ spn_)) [(4, .int (nI ti)), (3, .ref oa), (2, .ref (am 0)), (1, .ref (ad 0)), (0, .ref sb)] 352 [] := by
  refine g_aload_n E d_La_law_352 rfl 3 rfl ?_
  refine g_aload_n E d_La_law_353 rfl 4 rfl ?_
  refine g_iload E d_La_law_354 0 rfl ?_
  refine g_iconst (v := nI 1) E d_La_law_356 (by decide) ?_
  refine g_iadd E d_La_law_357 ?_
  refine g_topi (nI_add _ _) ?_
  refine g_scr E hX hbl (by omega) (by omega) d_La_law_358 ?_
  refine g_topi hx1 ?_
  refine g_aload_n E d_La_law_359 rfl 4 rfl ?_
  refine g_iload E d_La_law_360 0 rfl ?_
  refine g_iconst (v := nI 2) E d_La_law_362 (by decide) ?_
  refine g_iadd E d_La_law_363 ?_
  refine g_topi (nI_add _ _) ?_
  refine g_scr E hX hbl (by omega) (by omega) d_La_law_364 ?_
  refine g_topi hx2 ?_
  refine g_aload_n E d_La_law_365 rfl 4 rfl ?_
  refine g_iload E d_La_law_366 0 rfl ?_
  refine g_iconst (v := nI 3) E d_La_law_368 (by decide) ?_
  refine g_iadd E d_La_law_369 ?_
  refine g_topi (nI_add _ _) ?_
  refine g_scr E hX hbl (by omega) (by omega) d_La_law_370 ?_
  refine g_topi hx3 ?_
  refine g_aload_n E d_La_law_371 rfl 4 rfl ?_
  refine g_iload E d_La_law_372 0 rfl ?_
  refine g_iconst (v := nI 4) E d_La_law_374 (by decide) ?_
  refine g_iadd E d_La_law_375 ?_
  refine g_topi (nI_add _ _) ?_
  refine g_scr E hX hbl (by omega) (by omega) d_La_law_376 ?_
  refine g_topi hx4 ?_
  refine g_aload_n E d_La_law_377 rfl 1 rfl ?_
  refine gbLi (w := wG V oa ad r1 r2 r3 am ou nY ix bu np st sr sx tk rn sh sn yw nw yo ce wo po ne cs sv mk sp rs bg dp th_ nY_ ix_ bu_ np_ st_ sr_ go_ ca_ nw_ yo_ ce_ wo_ po_ ne_ sv_ cl_ mk_ bg_ dp_ sh_ nx_ spn_) (As := [.ref (ad 0), .int x, .int a, .int b, .int v, .ref oa]) (rest := []) E hXJ (fbi (post := wM V am th_ nY_ ix_ bu_ np_ st_ sr_ go_ ca_ nw_ yo_ ce_ wo_ po_ ne_ sv_ cl_ mk_ bg_ dp_ sh_ nx_ spn_) (B_CY_moves_1 l hfl (oa := oa) (ou := ou) x a b v hnp hb)) kc_La_moves kl_La_102 ks_La_moves kn_La kd_La_moves rfl rfl ⟨Nat.le_of_ble_eq_true rfl, Nat.le_of_ble_eq_true rfl⟩ rfl rfl (Nat.le_of_ble_eq_true rfl) ⟨by show _ ≤ 601024; omega, by show _ ≤ 7293000; omega⟩ d_La_law_378 ?_
  refine g_istore (lv' := [(5, .int (nI 1)), (4, .int (nI ti)), (3, .ref oa), (2, .ref (am 0)), (1, .ref (ad 0)), (0, .ref sb)]) E d_La_law_381 (by decide) rfl ?_
  refine g_aload_n E d_La_law_383 rfl 3 rfl ?_
  refine g_aload_n E d_La_law_384 rfl 5 rfl ?_
  refine g_iload E d_La_law_385 1 rfl ?_
  refine g_iconst (v := nI 1) E d_La_law_387 (by decide) ?_
  refine g_iadd E d_La_law_388 ?_
  refine g_topi (nI_add _ _) ?_
  refine g_scr E hX hbl (by omega) (by omega) d_La_law_389 ?_
  refine g_topi hx1 ?_
  refine g_aload_n E d_La_law_390 rfl 5 rfl ?_
  refine g_iload E d_La_law_391 1 rfl ?_
  refine g_iconst (v := nI 2) E d_La_law_393 (by decide) ?_
  refine g_iadd E d_La_law_394 ?_
  refine g_topi (nI_add _ _) ?_
  refine g_scr E hX hbl (by omega) (by omega) d_La_law_395 ?_
  refine g_topi hx2 ?_
  refine g_aload_n E d_La_law_396 rfl 5 rfl ?_
  refine g_iload E d_La_law_397 1 rfl ?_
  refine g_iconst (v := nI 3) E d_La_law_399 (by decide) ?_
  refine g_iadd E d_La_law_400 ?_
  refine g_topi (nI_add _ _) ?_
  refine g_scr E hX hbl (by omega) (by omega) d_La_law_401 ?_
  refine g_topi hx3 ?_
  refine g_aload_n E d_La_law_402 rfl 5 rfl ?_
  refine g_iload E d_La_law_403 1 rfl ?_
  refine g_iconst (v := nI 4) E d_La_law_405 (by decide) ?_
  refine g_iadd E d_La_law_406 ?_
  refine g_topi (nI_add _ _) ?_
  refine g_scr E hX hbl (by omega) (by omega) d_La_law_407 ?_
  refine g_topi hx4 ?_
  refine gwVi (w := wG V oa ad r1 r2 r3 am ou nY ix bu np st sr sx tk rn sh sn yw nw yo ce wo po ne cs sv mk sp rs bg dp th_ nY_ ix_ bu_ np_ st_ sr_ go_ ca_ nw_ yo_ ce_ wo_ po_ ne_ sv_ cl_ mk_ bg_ dp_ sh_ nx_ spn_) (w' := wG V oa ad r1 r2 r3 am ou nY ix bu np st sr sx tk rn sh sn yw nw yo ce wo po ne cs sv mk sp rs bg dp 1 nY_ ix_ bu_ np_ st_ sr_ go_ ca_ nw_ yo_ ce_ wo_ po_ ne_ sv_ cl_ mk_ bg_ dp_ sh_ nx_ spn_) (mc := 0) (ms := 0) (As := [.int x, .int a, .int b, .int v]) (rest := []) E (fun _ h => h) 57 wG_am rfl (fi (pre := (oa, aX V ou) :: wC V ad r1 r2 r3 nY ix bu np st sr sx tk rn sh sn yw nw yo ce wo po ne cs sv mk sp rs bg dp) (Y_Mo_moves_1 l x a b v hnp_ hst_ hb_)) (cs_La_105 E rfl rfl ⟨Nat.le_of_ble_eq_true rfl, Nat.le_of_ble_eq_true rfl⟩) rfl rfl (Nat.le_of_ble_eq_true rfl) ⟨by show _ ≤ 601024; omega, by show _ ≤ 7293000; omega⟩ d_La_law_408 ?_
  refine g_istore (lv' := [(6, .int (nI 0)), (5, .int (nI 1)), (4, .int (nI ti)), (3, .ref oa), (2, .ref (am 0)), (1, .ref (ad 0)), (0, .ref sb)]) E d_La_law_411 (by decide) rfl ?_
  refine g_aload_n E d_La_law_413 rfl 4 rfl ?_
  refine gpVi (As := []) (rest := []) E gO_w 57 wG_am rfl (fpi0 (pre := (oa, aX V ou) :: wC V ad r1 r2 r3 nY ix bu np st sr sx tk rn sh sn yw nw yo ce wo po ne cs sv mk sp rs bg dp) (C_Mo_thrown l)) (cs_La_92 E rfl rfl ⟨Nat.le_of_ble_eq_true rfl, Nat.le_of_ble_eq_true rfl⟩) rfl rfl (Nat.le_of_ble_eq_true rfl) ⟨by show _ ≤ 601024; omega, by show _ ≤ 7293000; omega⟩ d_La_law_414 ?_
  refine g_iload E d_La_law_417 1 rfl ?_
  refine g_ncmp_eq E 424 d_La_law_419 (by decide) (by omega) (by omega) (fun h1 => ?_) (fun h1 => ?_)
  · refine g_iload E d_La_law_424 1 rfl ?_
    refine g_nif_ne E 441 d_La_law_426 (by decide) (by decide) (fun _ => ?_) (fun h2 => absurd h2 (by decide))
    refine g_goto E 1527 d_La_law_441 (by decide) ?_
    refine g_lv [2, 3, 4, 5, 6] rfl ?_
    exact kk
  · exact absurd rfl h1

set_option maxHeartbeats 4000000 in
set_option maxRecDepth 100000 in
theorem K_moves_2_x {p : Program} {l : Launch} {e : Env} {s : State} {m : MethodId} {below : List Frame} {meth : Method} {c : Code} {V : gV} {sb LL ti cells slots : Nat} {xs : Nat → Int32} {oa : Nat} {am : Nat → Nat} {ou : Int64} {ad r1 r2 r3 : Nat → Nat} {nY : Nat} {ix bu : Nat → Nat} {np : Nat} {st sr : Nat → Nat} {sx tk : Nat → Nat → Nat} {rn sh sn : Nat → Nat} {yw nw : Nat} {yo ce wo : Nat → Nat} {po ne : Nat → Option Nat} {cs : Nat → Nat} {sv : Nat → Nat → Nat} {mk : Nat} {sp rs : Nat → Int} {bg dp : Nat} {th_ nY_ : Nat} {ix_ bu_ : Nat → Nat} {np_ : Nat} {st_ sr_ go_ ca_ : Nat → Nat} {nw_ : Nat} {yo_ ce_ wo_ : Nat → Nat} {po_ ne_ : Nat → Option Nat} {sv_ : Nat → Nat} {cl_ : Nat → Bool} {mk_ bg_ dp_ : Nat} {sh_ nx_ : Nat → Nat} {spn_ : Int} (E : gE p s m #[Value.ref sb] c code 8 R_La V) (hX : va_X sb LL xs s s.heap) (hbl : sb < s.heap.size) (hXJ : XJ s) (hfl : l.flags = flags0) (hL : LL ≤ 2561) (hiL : ti + 5 ≤ LL) (hcl : cells + 1 ≤ 601024) (hsl : slots + 6 ≤ 7293000) (i a b : Nat) (v : Int32) (hi : i < np) (hnp : np ≤ 12) (hs : st i ≤ 4) (ha : a < st i) (hbs : b < st i) (hab : a ≠ b) (hb : inB v (nI 0) (nI 16) = false) (hnp_ : np_ ≤ 12) (hst_ : ∀ i, st_ i ≤ 4) (hi_ : i < np_) (ha_ : a < st_ i) (hbs_ : b < st_ i) (hab_ : a ≠ b) (hb_ : inB v (nI 0) (nI 16) = false) (hx1 : xs (ti + 1) = nI i) (hx2 : xs (ti + 2) = nI a) (hx3 : xs (ti + 3) = nI b) (hx4 : xs (ti + 4) = v)  (kk : gg p l e room_1 s m #[Value.ref sb] below meth c 8 (lw_Z below #[Value.ref sb] s) (cells + 1) (slots + 6) (gW V (fun q => s.heap.size ≤ q) s.heap (wG V oa ad r1 r2 r3 am ou nY ix bu np st sr sx tk rn sh sn yw nw yo ce wo po ne cs sv mk sp rs bg dp 1 nY_ ix_ bu_ np_ st_ sr_ go_ ca_ nw_ yo_ ce_ wo_ po_ ne_ sv_ cl_ mk_ bg_ dp_ sh_ nx_ spn_)) [(4, .int (nI ti)), (3, .ref oa), (2, .ref (am 0)), (1, .ref (ad 0)), (0, .ref sb)] 1527 []) : gg p l e room_1 s m #[Value.ref sb] below meth c 8 (lw_Z below #[Value.ref sb] s) cells slots (gW V (fun q => s.heap.size ≤ q) s.heap (wG V oa ad r1 r2 r3 am ou nY ix bu np st sr sx tk rn sh sn yw nw yo ce wo po ne cs sv mk sp rs bg dp th_ nY_ ix_ bu_ np_ st_ sr_ go_ ca_ nw_ yo_ ce_ wo_ po_ ne_ sv_ cl_ mk_ bg_ dp_ sh_ nx_ spn_)) [(4, .int (nI ti)), (3, .ref oa), (2, .ref (am 0)), (1, .ref (ad 0)), (0, .ref sb)] 352 [] := by
  refine g_aload_n E d_La_law_352 rfl 3 rfl ?_
  refine g_aload_n E d_La_law_353 rfl 4 rfl ?_
  refine g_iload E d_La_law_354 0 rfl ?_
  refine g_iconst (v := nI 1) E d_La_law_356 (by decide) ?_
  refine g_iadd E d_La_law_357 ?_
  refine g_topi (nI_add _ _) ?_
  refine g_scr E hX hbl (by omega) (by omega) d_La_law_358 ?_
  refine g_topi hx1 ?_
  refine g_aload_n E d_La_law_359 rfl 4 rfl ?_
  refine g_iload E d_La_law_360 0 rfl ?_
  refine g_iconst (v := nI 2) E d_La_law_362 (by decide) ?_
  refine g_iadd E d_La_law_363 ?_
  refine g_topi (nI_add _ _) ?_
  refine g_scr E hX hbl (by omega) (by omega) d_La_law_364 ?_
  refine g_topi hx2 ?_
  refine g_aload_n E d_La_law_365 rfl 4 rfl ?_
  refine g_iload E d_La_law_366 0 rfl ?_
  refine g_iconst (v := nI 3) E d_La_law_368 (by decide) ?_
  refine g_iadd E d_La_law_369 ?_
  refine g_topi (nI_add _ _) ?_
  refine g_scr E hX hbl (by omega) (by omega) d_La_law_370 ?_
  refine g_topi hx3 ?_
  refine g_aload_n E d_La_law_371 rfl 4 rfl ?_
  refine g_iload E d_La_law_372 0 rfl ?_
  refine g_iconst (v := nI 4) E d_La_law_374 (by decide) ?_
  refine g_iadd E d_La_law_375 ?_
  refine g_topi (nI_add _ _) ?_
  refine g_scr E hX hbl (by omega) (by omega) d_La_law_376 ?_
  refine g_topi hx4 ?_
  refine g_aload_n E d_La_law_377 rfl 1 rfl ?_
  refine gbLi (w := wG V oa ad r1 r2 r3 am ou nY ix bu np st sr sx tk rn sh sn yw nw yo ce wo po ne cs sv mk sp rs bg dp th_ nY_ ix_ bu_ np_ st_ sr_ go_ ca_ nw_ yo_ ce_ wo_ po_ ne_ sv_ cl_ mk_ bg_ dp_ sh_ nx_ spn_) (As := [.ref (ad 0), .int (nI i), .int (nI a), .int (nI b), .int v, .ref oa]) (rest := []) E hXJ (fbi (post := wM V am th_ nY_ ix_ bu_ np_ st_ sr_ go_ ca_ nw_ yo_ ce_ wo_ po_ ne_ sv_ cl_ mk_ bg_ dp_ sh_ nx_ spn_) (B_CY_moves_2 l hfl (oa := oa) (ou := ou) i a b v hi hnp hs ha hbs hab hb)) kc_La_moves kl_La_102 ks_La_moves kn_La kd_La_moves rfl rfl ⟨Nat.le_of_ble_eq_true rfl, Nat.le_of_ble_eq_true rfl⟩ rfl rfl (Nat.le_of_ble_eq_true rfl) ⟨by show _ ≤ 601024; omega, by show _ ≤ 7293000; omega⟩ d_La_law_378 ?_
  refine g_istore (lv' := [(5, .int (nI 1)), (4, .int (nI ti)), (3, .ref oa), (2, .ref (am 0)), (1, .ref (ad 0)), (0, .ref sb)]) E d_La_law_381 (by decide) rfl ?_
  refine g_aload_n E d_La_law_383 rfl 3 rfl ?_
  refine g_aload_n E d_La_law_384 rfl 5 rfl ?_
  refine g_iload E d_La_law_385 1 rfl ?_
  refine g_iconst (v := nI 1) E d_La_law_387 (by decide) ?_
  refine g_iadd E d_La_law_388 ?_
  refine g_topi (nI_add _ _) ?_
  refine g_scr E hX hbl (by omega) (by omega) d_La_law_389 ?_
  refine g_topi hx1 ?_
  refine g_aload_n E d_La_law_390 rfl 5 rfl ?_
  refine g_iload E d_La_law_391 1 rfl ?_
  refine g_iconst (v := nI 2) E d_La_law_393 (by decide) ?_
  refine g_iadd E d_La_law_394 ?_
  refine g_topi (nI_add _ _) ?_
  refine g_scr E hX hbl (by omega) (by omega) d_La_law_395 ?_
  refine g_topi hx2 ?_
  refine g_aload_n E d_La_law_396 rfl 5 rfl ?_
  refine g_iload E d_La_law_397 1 rfl ?_
  refine g_iconst (v := nI 3) E d_La_law_399 (by decide) ?_
  refine g_iadd E d_La_law_400 ?_
  refine g_topi (nI_add _ _) ?_
  refine g_scr E hX hbl (by omega) (by omega) d_La_law_401 ?_
  refine g_topi hx3 ?_
  refine g_aload_n E d_La_law_402 rfl 5 rfl ?_
  refine g_iload E d_La_law_403 1 rfl ?_
  refine g_iconst (v := nI 4) E d_La_law_405 (by decide) ?_
  refine g_iadd E d_La_law_406 ?_
  refine g_topi (nI_add _ _) ?_
  refine g_scr E hX hbl (by omega) (by omega) d_La_law_407 ?_
  refine g_topi hx4 ?_
  refine gwVi (w := wG V oa ad r1 r2 r3 am ou nY ix bu np st sr sx tk rn sh sn yw nw yo ce wo po ne cs sv mk sp rs bg dp th_ nY_ ix_ bu_ np_ st_ sr_ go_ ca_ nw_ yo_ ce_ wo_ po_ ne_ sv_ cl_ mk_ bg_ dp_ sh_ nx_ spn_) (w' := wG V oa ad r1 r2 r3 am ou nY ix bu np st sr sx tk rn sh sn yw nw yo ce wo po ne cs sv mk sp rs bg dp 1 nY_ ix_ bu_ np_ st_ sr_ go_ ca_ nw_ yo_ ce_ wo_ po_ ne_ sv_ cl_ mk_ bg_ dp_ sh_ nx_ spn_) (mc := 0) (ms := 0) (As := [.int (nI i), .int (nI a), .int (nI b), .int v]) (rest := []) E (fun _ h => h) 57 wG_am rfl (fi (pre := (oa, aX V ou) :: wC V ad r1 r2 r3 nY ix bu np st sr sx tk rn sh sn yw nw yo ce wo po ne cs sv mk sp rs bg dp) (Y_Mo_moves_2 l i a b v hnp_ hst_ hi_ ha_ hbs_ hab_ hb_)) (cs_La_105 E rfl rfl ⟨Nat.le_of_ble_eq_true rfl, Nat.le_of_ble_eq_true rfl⟩) rfl rfl (Nat.le_of_ble_eq_true rfl) ⟨by show _ ≤ 601024; omega, by show _ ≤ 7293000; omega⟩ d_La_law_408 ?_
  refine g_istore (lv' := [(6, .int (nI 0)), (5, .int (nI 1)), (4, .int (nI ti)), (3, .ref oa), (2, .ref (am 0)), (1, .ref (ad 0)), (0, .ref sb)]) E d_La_law_411 (by decide) rfl ?_
  refine g_aload_n E d_La_law_413 rfl 4 rfl ?_
  refine gpVi (As := []) (rest := []) E gO_w 57 wG_am rfl (fpi0 (pre := (oa, aX V ou) :: wC V ad r1 r2 r3 nY ix bu np st sr sx tk rn sh sn yw nw yo ce wo po ne cs sv mk sp rs bg dp) (C_Mo_thrown l)) (cs_La_92 E rfl rfl ⟨Nat.le_of_ble_eq_true rfl, Nat.le_of_ble_eq_true rfl⟩) rfl rfl (Nat.le_of_ble_eq_true rfl) ⟨by show _ ≤ 601024; omega, by show _ ≤ 7293000; omega⟩ d_La_law_414 ?_
  refine g_iload E d_La_law_417 1 rfl ?_
  refine g_ncmp_eq E 424 d_La_law_419 (by decide) (by omega) (by omega) (fun h1 => ?_) (fun h1 => ?_)
  · refine g_iload E d_La_law_424 1 rfl ?_
    refine g_nif_ne E 441 d_La_law_426 (by decide) (by decide) (fun _ => ?_) (fun h2 => absurd h2 (by decide))
    refine g_goto E 1527 d_La_law_441 (by decide) ?_
    refine g_lv [2, 3, 4, 5, 6] rfl ?_
    exact kk
  · exact absurd rfl h1

set_option maxHeartbeats 4000000 in
set_option maxRecDepth 100000 in
theorem K_moves_3_x {p : Program} {l : Launch} {e : Env} {s : State} {m : MethodId} {below : List Frame} {meth : Method} {c : Code} {V : gV} {sb LL ti cells slots : Nat} {xs : Nat → Int32} {oa : Nat} {am : Nat → Nat} {ou : Int64} {ad r1 r2 r3 : Nat → Nat} {nY : Nat} {ix bu : Nat → Nat} {np : Nat} {st sr : Nat → Nat} {sx tk : Nat → Nat → Nat} {rn sh sn : Nat → Nat} {yw nw : Nat} {yo ce wo : Nat → Nat} {po ne : Nat → Option Nat} {cs : Nat → Nat} {sv : Nat → Nat → Nat} {mk : Nat} {sp rs : Nat → Int} {bg dp : Nat} {th_ nY_ : Nat} {ix_ bu_ : Nat → Nat} {np_ : Nat} {st_ sr_ go_ ca_ : Nat → Nat} {nw_ : Nat} {yo_ ce_ wo_ : Nat → Nat} {po_ ne_ : Nat → Option Nat} {sv_ : Nat → Nat} {cl_ : Nat → Bool} {mk_ bg_ dp_ : Nat} {sh_ nx_ : Nat → Nat} {spn_ : Int} (E : gE p s m #[Value.ref sb] c code 8 R_La V) (hX : va_X sb LL xs s s.heap) (hbl : sb < s.heap.size) (hXJ : XJ s) (hfl : l.flags = flags0) (hL : LL ≤ 2561) (hiL : ti + 5 ≤ LL) (hcl : cells + 1 ≤ 601024) (hsl : slots + 6 ≤ 7293000) (i a b v : Nat) (hi : i < np) (hnp : np ≤ 12) (hs : st i ≤ 4) (ha : a < st i) (hbs : b < st i) (hab : a ≠ b) (hv16 : v ≤ 16) (hsx : sx i (a * 4 + a) + sx i (a * 4 + b) < v) (hnp_ : np_ ≤ 12) (hst_ : ∀ i, st_ i ≤ 4) (hi_ : i < np_) (ha_ : a < st_ i) (hbs_ : b < st_ i) (hab_ : a ≠ b) (hv16_ : v ≤ 16) (hlv_ : lvN go_ i a ≤ 16) (hle_ : 16 + go_ (16 * i + 4 * a + b) < lvN go_ i a + v) (hx1 : xs (ti + 1) = nI i) (hx2 : xs (ti + 2) = nI a) (hx3 : xs (ti + 3) = nI b) (hx4 : xs (ti + 4) = nI v)  (kk : gg p l e room_1 s m #[Value.ref sb] below meth c 8 (lw_Z below #[Value.ref sb] s) (cells + 1) (slots + 6) (gW V (fun q => s.heap.size ≤ q) s.heap (wG V oa ad r1 r2 r3 am ou nY ix bu np st sr sx tk rn sh sn yw nw yo ce wo po ne cs sv mk sp rs bg dp 1 nY_ ix_ bu_ np_ st_ sr_ go_ ca_ nw_ yo_ ce_ wo_ po_ ne_ sv_ cl_ mk_ bg_ dp_ sh_ nx_ spn_)) [(4, .int (nI ti)), (3, .ref oa), (2, .ref (am 0)), (1, .ref (ad 0)), (0, .ref sb)] 1527 []) : gg p l e room_1 s m #[Value.ref sb] below meth c 8 (lw_Z below #[Value.ref sb] s) cells slots (gW V (fun q => s.heap.size ≤ q) s.heap (wG V oa ad r1 r2 r3 am ou nY ix bu np st sr sx tk rn sh sn yw nw yo ce wo po ne cs sv mk sp rs bg dp th_ nY_ ix_ bu_ np_ st_ sr_ go_ ca_ nw_ yo_ ce_ wo_ po_ ne_ sv_ cl_ mk_ bg_ dp_ sh_ nx_ spn_)) [(4, .int (nI ti)), (3, .ref oa), (2, .ref (am 0)), (1, .ref (ad 0)), (0, .ref sb)] 352 [] := by
  refine g_aload_n E d_La_law_352 rfl 3 rfl ?_
  refine g_aload_n E d_La_law_353 rfl 4 rfl ?_
  refine g_iload E d_La_law_354 0 rfl ?_
  refine g_iconst (v := nI 1) E d_La_law_356 (by decide) ?_
  refine g_iadd E d_La_law_357 ?_
  refine g_topi (nI_add _ _) ?_
  refine g_scr E hX hbl (by omega) (by omega) d_La_law_358 ?_
  refine g_topi hx1 ?_
  refine g_aload_n E d_La_law_359 rfl 4 rfl ?_
  refine g_iload E d_La_law_360 0 rfl ?_
  refine g_iconst (v := nI 2) E d_La_law_362 (by decide) ?_
  refine g_iadd E d_La_law_363 ?_
  refine g_topi (nI_add _ _) ?_
  refine g_scr E hX hbl (by omega) (by omega) d_La_law_364 ?_
  refine g_topi hx2 ?_
  refine g_aload_n E d_La_law_365 rfl 4 rfl ?_
  refine g_iload E d_La_law_366 0 rfl ?_
  refine g_iconst (v := nI 3) E d_La_law_368 (by decide) ?_
  refine g_iadd E d_La_law_369 ?_
  refine g_topi (nI_add _ _) ?_
  refine g_scr E hX hbl (by omega) (by omega) d_La_law_370 ?_
  refine g_topi hx3 ?_
  refine g_aload_n E d_La_law_371 rfl 4 rfl ?_
  refine g_iload E d_La_law_372 0 rfl ?_
  refine g_iconst (v := nI 4) E d_La_law_374 (by decide) ?_
  refine g_iadd E d_La_law_375 ?_
  refine g_topi (nI_add _ _) ?_
  refine g_scr E hX hbl (by omega) (by omega) d_La_law_376 ?_
  refine g_topi hx4 ?_
  refine g_aload_n E d_La_law_377 rfl 1 rfl ?_
  refine gbLi (w := wG V oa ad r1 r2 r3 am ou nY ix bu np st sr sx tk rn sh sn yw nw yo ce wo po ne cs sv mk sp rs bg dp th_ nY_ ix_ bu_ np_ st_ sr_ go_ ca_ nw_ yo_ ce_ wo_ po_ ne_ sv_ cl_ mk_ bg_ dp_ sh_ nx_ spn_) (As := [.ref (ad 0), .int (nI i), .int (nI a), .int (nI b), .int (nI v), .ref oa]) (rest := []) E hXJ (fbi (post := wM V am th_ nY_ ix_ bu_ np_ st_ sr_ go_ ca_ nw_ yo_ ce_ wo_ po_ ne_ sv_ cl_ mk_ bg_ dp_ sh_ nx_ spn_) (B_CY_moves_3 l hfl (oa := oa) (ou := ou) i a b v hi hnp hs ha hbs hab hv16 hsx)) kc_La_moves kl_La_102 ks_La_moves kn_La kd_La_moves rfl rfl ⟨Nat.le_of_ble_eq_true rfl, Nat.le_of_ble_eq_true rfl⟩ rfl rfl (Nat.le_of_ble_eq_true rfl) ⟨by show _ ≤ 601024; omega, by show _ ≤ 7293000; omega⟩ d_La_law_378 ?_
  refine g_istore (lv' := [(5, .int (nI 1)), (4, .int (nI ti)), (3, .ref oa), (2, .ref (am 0)), (1, .ref (ad 0)), (0, .ref sb)]) E d_La_law_381 (by decide) rfl ?_
  refine g_aload_n E d_La_law_383 rfl 3 rfl ?_
  refine g_aload_n E d_La_law_384 rfl 5 rfl ?_
  refine g_iload E d_La_law_385 1 rfl ?_
  refine g_iconst (v := nI 1) E d_La_law_387 (by decide) ?_
  refine g_iadd E d_La_law_388 ?_
  refine g_topi (nI_add _ _) ?_
  refine g_scr E hX hbl (by omega) (by omega) d_La_law_389 ?_
  refine g_topi hx1 ?_
  refine g_aload_n E d_La_law_390 rfl 5 rfl ?_
  refine g_iload E d_La_law_391 1 rfl ?_
  refine g_iconst (v := nI 2) E d_La_law_393 (by decide) ?_
  refine g_iadd E d_La_law_394 ?_
  refine g_topi (nI_add _ _) ?_
  refine g_scr E hX hbl (by omega) (by omega) d_La_law_395 ?_
  refine g_topi hx2 ?_
  refine g_aload_n E d_La_law_396 rfl 5 rfl ?_
  refine g_iload E d_La_law_397 1 rfl ?_
  refine g_iconst (v := nI 3) E d_La_law_399 (by decide) ?_
  refine g_iadd E d_La_law_400 ?_
  refine g_topi (nI_add _ _) ?_
  refine g_scr E hX hbl (by omega) (by omega) d_La_law_401 ?_
  refine g_topi hx3 ?_
  refine g_aload_n E d_La_law_402 rfl 5 rfl ?_
  refine g_iload E d_La_law_403 1 rfl ?_
  refine g_iconst (v := nI 4) E d_La_law_405 (by decide) ?_
  refine g_iadd E d_La_law_406 ?_
  refine g_topi (nI_add _ _) ?_
  refine g_scr E hX hbl (by omega) (by omega) d_La_law_407 ?_
  refine g_topi hx4 ?_
  refine gwVi (w := wG V oa ad r1 r2 r3 am ou nY ix bu np st sr sx tk rn sh sn yw nw yo ce wo po ne cs sv mk sp rs bg dp th_ nY_ ix_ bu_ np_ st_ sr_ go_ ca_ nw_ yo_ ce_ wo_ po_ ne_ sv_ cl_ mk_ bg_ dp_ sh_ nx_ spn_) (w' := wG V oa ad r1 r2 r3 am ou nY ix bu np st sr sx tk rn sh sn yw nw yo ce wo po ne cs sv mk sp rs bg dp 1 nY_ ix_ bu_ np_ st_ sr_ go_ ca_ nw_ yo_ ce_ wo_ po_ ne_ sv_ cl_ mk_ bg_ dp_ sh_ nx_ spn_) (mc := 0) (ms := 0) (As := [.int (nI i), .int (nI a), .int (nI b), .int (nI v)]) (rest := []) E (fun _ h => h) 57 wG_am rfl (fi (pre := (oa, aX V ou) :: wC V ad r1 r2 r3 nY ix bu np st sr sx tk rn sh sn yw nw yo ce wo po ne cs sv mk sp rs bg dp) (Y_Mo_moves_3 l i a b v hnp_ hst_ hi_ ha_ hbs_ hab_ hv16_ hlv_ hle_)) (cs_La_105 E rfl rfl ⟨Nat.le_of_ble_eq_true rfl, Nat.le_of_ble_eq_true rfl⟩) rfl rfl (Nat.le_of_ble_eq_true rfl) ⟨by show _ ≤ 601024; omega, by show _ ≤ 7293000; omega⟩ d_La_law_408 ?_
  refine g_istore (lv' := [(6, .int (nI 0)), (5, .int (nI 1)), (4, .int (nI ti)), (3, .ref oa), (2, .ref (am 0)), (1, .ref (ad 0)), (0, .ref sb)]) E d_La_law_411 (by decide) rfl ?_
  refine g_aload_n E d_La_law_413 rfl 4 rfl ?_
  refine gpVi (As := []) (rest := []) E gO_w 57 wG_am rfl (fpi0 (pre := (oa, aX V ou) :: wC V ad r1 r2 r3 nY ix bu np st sr sx tk rn sh sn yw nw yo ce wo po ne cs sv mk sp rs bg dp) (C_Mo_thrown l)) (cs_La_92 E rfl rfl ⟨Nat.le_of_ble_eq_true rfl, Nat.le_of_ble_eq_true rfl⟩) rfl rfl (Nat.le_of_ble_eq_true rfl) ⟨by show _ ≤ 601024; omega, by show _ ≤ 7293000; omega⟩ d_La_law_414 ?_
  refine g_iload E d_La_law_417 1 rfl ?_
  refine g_ncmp_eq E 424 d_La_law_419 (by decide) (by omega) (by omega) (fun h1 => ?_) (fun h1 => ?_)
  · refine g_iload E d_La_law_424 1 rfl ?_
    refine g_nif_ne E 441 d_La_law_426 (by decide) (by decide) (fun _ => ?_) (fun h2 => absurd h2 (by decide))
    refine g_goto E 1527 d_La_law_441 (by decide) ?_
    refine g_lv [2, 3, 4, 5, 6] rfl ?_
    exact kk
  · exact absurd rfl h1

set_option maxHeartbeats 4000000 in
set_option maxRecDepth 100000 in
theorem K_care_x {p : Program} {l : Launch} {e : Env} {s : State} {m : MethodId} {below : List Frame} {meth : Method} {c : Code} {V : gV} {sb LL ti cells slots : Nat} {xs : Nat → Int32} {oa : Nat} {am : Nat → Nat} {ou : Int64} {ad r1 r2 r3 : Nat → Nat} {nY : Nat} {ix bu : Nat → Nat} {np : Nat} {st sr : Nat → Nat} {sx tk : Nat → Nat → Nat} {rn sh sn : Nat → Nat} {yw nw : Nat} {yo ce wo : Nat → Nat} {po ne : Nat → Option Nat} {cs : Nat → Nat} {sv : Nat → Nat → Nat} {mk : Nat} {sp rs : Nat → Int} {bg dp : Nat} {th_ nY_ : Nat} {ix_ bu_ : Nat → Nat} {np_ : Nat} {st_ sr_ go_ ca_ : Nat → Nat} {nw_ : Nat} {yo_ ce_ wo_ : Nat → Nat} {po_ ne_ : Nat → Option Nat} {sv_ : Nat → Nat} {cl_ : Nat → Bool} {mk_ bg_ dp_ : Nat} {sh_ nx_ : Nat → Nat} {spn_ : Int} (E : gE p s m #[Value.ref sb] c code 8 R_La V) (hX : va_X sb LL xs s s.heap) (hbl : sb < s.heap.size) (hXJ : XJ s) (hfl : l.flags = flags0) (hL : LL ≤ 2561) (hiL : ti + 5 ≤ LL) (hcl : cells + 1 ≤ 601024) (hsl : slots + 6 ≤ 7293000) (x a v : Int32) (hnp : np ≤ 12) (hb : (hasSt np st x a && inB v (nI 0) (nI 1000)) = false) (hnp_ : np_ ≤ 12) (hst_ : ∀ i, st_ i ≤ 4) (hb_ : (hasSt np_ st_ x a && inB v (nI 0) (nI 1000)) = false) (hx1 : xs (ti + 1) = x) (hx2 : xs (ti + 2) = a) (hx3 : xs (ti + 3) = v)  (kk : gg p l e room_1 s m #[Value.ref sb] below meth c 8 (lw_Z below #[Value.ref sb] s) (cells + 1) (slots + 6) (gW V (fun q => s.heap.size ≤ q) s.heap (wG V oa ad r1 r2 r3 am ou nY ix bu np st sr sx tk rn sh sn yw nw yo ce wo po ne cs sv mk sp rs bg dp 1 nY_ ix_ bu_ np_ st_ sr_ go_ ca_ nw_ yo_ ce_ wo_ po_ ne_ sv_ cl_ mk_ bg_ dp_ sh_ nx_ spn_)) [(4, .int (nI ti)), (3, .ref oa), (2, .ref (am 0)), (1, .ref (ad 0)), (0, .ref sb)] 1527 []) : gg p l e room_1 s m #[Value.ref sb] below meth c 8 (lw_Z below #[Value.ref sb] s) cells slots (gW V (fun q => s.heap.size ≤ q) s.heap (wG V oa ad r1 r2 r3 am ou nY ix bu np st sr sx tk rn sh sn yw nw yo ce wo po ne cs sv mk sp rs bg dp th_ nY_ ix_ bu_ np_ st_ sr_ go_ ca_ nw_ yo_ ce_ wo_ po_ ne_ sv_ cl_ mk_ bg_ dp_ sh_ nx_ spn_)) [(4, .int (nI ti)), (3, .ref oa), (2, .ref (am 0)), (1, .ref (ad 0)), (0, .ref sb)] 444 [] := by
  refine g_aload_n E d_La_law_444 rfl 3 rfl ?_
  refine g_aload_n E d_La_law_445 rfl 4 rfl ?_
  refine g_iload E d_La_law_446 0 rfl ?_
  refine g_iconst (v := nI 1) E d_La_law_448 (by decide) ?_
  refine g_iadd E d_La_law_449 ?_
  refine g_topi (nI_add _ _) ?_
  refine g_scr E hX hbl (by omega) (by omega) d_La_law_450 ?_
  refine g_topi hx1 ?_
  refine g_aload_n E d_La_law_451 rfl 4 rfl ?_
  refine g_iload E d_La_law_452 0 rfl ?_
  refine g_iconst (v := nI 2) E d_La_law_454 (by decide) ?_
  refine g_iadd E d_La_law_455 ?_
  refine g_topi (nI_add _ _) ?_
  refine g_scr E hX hbl (by omega) (by omega) d_La_law_456 ?_
  refine g_topi hx2 ?_
  refine g_aload_n E d_La_law_457 rfl 4 rfl ?_
  refine g_iload E d_La_law_458 0 rfl ?_
  refine g_iconst (v := nI 3) E d_La_law_460 (by decide) ?_
  refine g_iadd E d_La_law_461 ?_
  refine g_topi (nI_add _ _) ?_
  refine g_scr E hX hbl (by omega) (by omega) d_La_law_462 ?_
  refine g_topi hx3 ?_
  refine g_aload_n E d_La_law_463 rfl 1 rfl ?_
  refine gbLi (w := wG V oa ad r1 r2 r3 am ou nY ix bu np st sr sx tk rn sh sn yw nw yo ce wo po ne cs sv mk sp rs bg dp th_ nY_ ix_ bu_ np_ st_ sr_ go_ ca_ nw_ yo_ ce_ wo_ po_ ne_ sv_ cl_ mk_ bg_ dp_ sh_ nx_ spn_) (As := [.ref (ad 0), .int x, .int a, .int v, .ref oa]) (rest := []) E hXJ (fbi (post := wM V am th_ nY_ ix_ bu_ np_ st_ sr_ go_ ca_ nw_ yo_ ce_ wo_ po_ ne_ sv_ cl_ mk_ bg_ dp_ sh_ nx_ spn_) (B_CY_care l hfl (oa := oa) (ou := ou) x a v hnp hb)) kc_La_care kl_La_106 ks_La_care kn_La kd_La_care rfl rfl ⟨Nat.le_of_ble_eq_true rfl, Nat.le_of_ble_eq_true rfl⟩ rfl rfl (Nat.le_of_ble_eq_true rfl) ⟨by show _ ≤ 601024; omega, by show _ ≤ 7293000; omega⟩ d_La_law_464 ?_
  refine g_istore (lv' := [(5, .int (nI 1)), (4, .int (nI ti)), (3, .ref oa), (2, .ref (am 0)), (1, .ref (ad 0)), (0, .ref sb)]) E d_La_law_467 (by decide) rfl ?_
  refine g_aload_n E d_La_law_469 rfl 3 rfl ?_
  refine g_aload_n E d_La_law_470 rfl 5 rfl ?_
  refine g_iload E d_La_law_471 1 rfl ?_
  refine g_iconst (v := nI 1) E d_La_law_473 (by decide) ?_
  refine g_iadd E d_La_law_474 ?_
  refine g_topi (nI_add _ _) ?_
  refine g_scr E hX hbl (by omega) (by omega) d_La_law_475 ?_
  refine g_topi hx1 ?_
  refine g_aload_n E d_La_law_476 rfl 5 rfl ?_
  refine g_iload E d_La_law_477 1 rfl ?_
  refine g_iconst (v := nI 2) E d_La_law_479 (by decide) ?_
  refine g_iadd E d_La_law_480 ?_
  refine g_topi (nI_add _ _) ?_
  refine g_scr E hX hbl (by omega) (by omega) d_La_law_481 ?_
  refine g_topi hx2 ?_
  refine g_aload_n E d_La_law_482 rfl 5 rfl ?_
  refine g_iload E d_La_law_483 1 rfl ?_
  refine g_iconst (v := nI 3) E d_La_law_485 (by decide) ?_
  refine g_iadd E d_La_law_486 ?_
  refine g_topi (nI_add _ _) ?_
  refine g_scr E hX hbl (by omega) (by omega) d_La_law_487 ?_
  refine g_topi hx3 ?_
  refine gwVi (w := wG V oa ad r1 r2 r3 am ou nY ix bu np st sr sx tk rn sh sn yw nw yo ce wo po ne cs sv mk sp rs bg dp th_ nY_ ix_ bu_ np_ st_ sr_ go_ ca_ nw_ yo_ ce_ wo_ po_ ne_ sv_ cl_ mk_ bg_ dp_ sh_ nx_ spn_) (w' := wG V oa ad r1 r2 r3 am ou nY ix bu np st sr sx tk rn sh sn yw nw yo ce wo po ne cs sv mk sp rs bg dp 1 nY_ ix_ bu_ np_ st_ sr_ go_ ca_ nw_ yo_ ce_ wo_ po_ ne_ sv_ cl_ mk_ bg_ dp_ sh_ nx_ spn_) (mc := 0) (ms := 0) (As := [.int x, .int a, .int v]) (rest := []) E (fun _ h => h) 57 wG_am rfl (fi (pre := (oa, aX V ou) :: wC V ad r1 r2 r3 nY ix bu np st sr sx tk rn sh sn yw nw yo ce wo po ne cs sv mk sp rs bg dp) (Y_Mo_care l x a v hnp_ hst_ hb_)) (cs_La_109 E rfl rfl ⟨Nat.le_of_ble_eq_true rfl, Nat.le_of_ble_eq_true rfl⟩) rfl rfl (Nat.le_of_ble_eq_true rfl) ⟨by show _ ≤ 601024; omega, by show _ ≤ 7293000; omega⟩ d_La_law_488 ?_
  refine g_istore (lv' := [(6, .int (nI 0)), (5, .int (nI 1)), (4, .int (nI ti)), (3, .ref oa), (2, .ref (am 0)), (1, .ref (ad 0)), (0, .ref sb)]) E d_La_law_491 (by decide) rfl ?_
  refine g_aload_n E d_La_law_493 rfl 4 rfl ?_
  refine gpVi (As := []) (rest := []) E gO_w 57 wG_am rfl (fpi0 (pre := (oa, aX V ou) :: wC V ad r1 r2 r3 nY ix bu np st sr sx tk rn sh sn yw nw yo ce wo po ne cs sv mk sp rs bg dp) (C_Mo_thrown l)) (cs_La_92 E rfl rfl ⟨Nat.le_of_ble_eq_true rfl, Nat.le_of_ble_eq_true rfl⟩) rfl rfl (Nat.le_of_ble_eq_true rfl) ⟨by show _ ≤ 601024; omega, by show _ ≤ 7293000; omega⟩ d_La_law_494 ?_
  refine g_iload E d_La_law_497 1 rfl ?_
  refine g_ncmp_eq E 504 d_La_law_499 (by decide) (by omega) (by omega) (fun h1 => ?_) (fun h1 => ?_)
  · refine g_iload E d_La_law_504 1 rfl ?_
    refine g_nif_ne E 521 d_La_law_506 (by decide) (by decide) (fun _ => ?_) (fun h2 => absurd h2 (by decide))
    refine g_goto E 1527 d_La_law_521 (by decide) ?_
    refine g_lv [2, 3, 4, 5, 6] rfl ?_
    exact kk
  · exact absurd rfl h1

set_option maxHeartbeats 4000000 in
set_option maxRecDepth 100000 in
theorem K_share_x {p : Program} {l : Launch} {e : Env} {s : State} {m : MethodId} {below : List Frame} {meth : Method} {c : Code} {V : gV} {sb LL ti cells slots : Nat} {xs : Nat → Int32} {oa : Nat} {am : Nat → Nat} {ou : Int64} {ad r1 r2 r3 : Nat → Nat} {nY : Nat} {ix bu : Nat → Nat} {np : Nat} {st sr : Nat → Nat} {sx tk : Nat → Nat → Nat} {rn sh sn : Nat → Nat} {yw nw : Nat} {yo ce wo : Nat → Nat} {po ne : Nat → Option Nat} {cs : Nat → Nat} {sv : Nat → Nat → Nat} {mk : Nat} {sp rs : Nat → Int} {bg dp : Nat} {th_ nY_ : Nat} {ix_ bu_ : Nat → Nat} {np_ : Nat} {st_ sr_ go_ ca_ : Nat → Nat} {nw_ : Nat} {yo_ ce_ wo_ : Nat → Nat} {po_ ne_ : Nat → Option Nat} {sv_ : Nat → Nat} {cl_ : Nat → Bool} {mk_ bg_ dp_ : Nat} {sh_ nx_ : Nat → Nat} {spn_ : Int} (E : gE p s m #[Value.ref sb] c code 8 R_La V) (hX : va_X sb LL xs s s.heap) (hbl : sb < s.heap.size) (hXJ : XJ s) (hfl : l.flags = flags0) (hL : LL ≤ 2561) (hiL : ti + 5 ≤ LL) (hcl : cells + 1 ≤ 601024) (hsl : slots + 6 ≤ 7293000) (x a y : Int32) (hnp : np ≤ 12) (hb : (hasSt np st x a && inR y (nI nY)) = false) (hnp_ : np_ ≤ 12) (hst_ : ∀ i, st_ i ≤ 4) (hY_ : nY_ ≤ 12) (hb_ : (hasSt np_ st_ x a && inR y (nI nY_)) = false) (hx1 : xs (ti + 1) = x) (hx2 : xs (ti + 2) = a) (hx3 : xs (ti + 3) = y)  (kk : gg p l e room_1 s m #[Value.ref sb] below meth c 8 (lw_Z below #[Value.ref sb] s) (cells + 1) (slots + 6) (gW V (fun q => s.heap.size ≤ q) s.heap (wG V oa ad r1 r2 r3 am ou nY ix bu np st sr sx tk rn sh sn yw nw yo ce wo po ne cs sv mk sp rs bg dp 1 nY_ ix_ bu_ np_ st_ sr_ go_ ca_ nw_ yo_ ce_ wo_ po_ ne_ sv_ cl_ mk_ bg_ dp_ sh_ nx_ spn_)) [(4, .int (nI ti)), (3, .ref oa), (2, .ref (am 0)), (1, .ref (ad 0)), (0, .ref sb)] 1527 []) : gg p l e room_1 s m #[Value.ref sb] below meth c 8 (lw_Z below #[Value.ref sb] s) cells slots (gW V (fun q => s.heap.size ≤ q) s.heap (wG V oa ad r1 r2 r3 am ou nY ix bu np st sr sx tk rn sh sn yw nw yo ce wo po ne cs sv mk sp rs bg dp th_ nY_ ix_ bu_ np_ st_ sr_ go_ ca_ nw_ yo_ ce_ wo_ po_ ne_ sv_ cl_ mk_ bg_ dp_ sh_ nx_ spn_)) [(4, .int (nI ti)), (3, .ref oa), (2, .ref (am 0)), (1, .ref (ad 0)), (0, .ref sb)] 524 [] := by
  refine g_aload_n E d_La_law_524 rfl 3 rfl ?_
  refine g_aload_n E d_La_law_525 rfl 4 rfl ?_
  refine g_iload E d_La_law_526 0 rfl ?_
  refine g_iconst (v := nI 1) E d_La_law_528 (by decide) ?_
  refine g_iadd E d_La_law_529 ?_
  refine g_topi (nI_add _ _) ?_
  refine g_scr E hX hbl (by omega) (by omega) d_La_law_530 ?_
  refine g_topi hx1 ?_
  refine g_aload_n E d_La_law_531 rfl 4 rfl ?_
  refine g_iload E d_La_law_532 0 rfl ?_
  refine g_iconst (v := nI 2) E d_La_law_534 (by decide) ?_
  refine g_iadd E d_La_law_535 ?_
  refine g_topi (nI_add _ _) ?_
  refine g_scr E hX hbl (by omega) (by omega) d_La_law_536 ?_
  refine g_topi hx2 ?_
  refine g_aload_n E d_La_law_537 rfl 4 rfl ?_
  refine g_iload E d_La_law_538 0 rfl ?_
  refine g_iconst (v := nI 3) E d_La_law_540 (by decide) ?_
  refine g_iadd E d_La_law_541 ?_
  refine g_topi (nI_add _ _) ?_
  refine g_scr E hX hbl (by omega) (by omega) d_La_law_542 ?_
  refine g_topi hx3 ?_
  refine g_aload_n E d_La_law_543 rfl 1 rfl ?_
  refine gbLi (w := wG V oa ad r1 r2 r3 am ou nY ix bu np st sr sx tk rn sh sn yw nw yo ce wo po ne cs sv mk sp rs bg dp th_ nY_ ix_ bu_ np_ st_ sr_ go_ ca_ nw_ yo_ ce_ wo_ po_ ne_ sv_ cl_ mk_ bg_ dp_ sh_ nx_ spn_) (As := [.ref (ad 0), .int x, .int a, .int y, .ref oa]) (rest := []) E hXJ (fbi (post := wM V am th_ nY_ ix_ bu_ np_ st_ sr_ go_ ca_ nw_ yo_ ce_ wo_ po_ ne_ sv_ cl_ mk_ bg_ dp_ sh_ nx_ spn_) (B_CY_share l hfl (oa := oa) (ou := ou) x a y hnp hb)) kc_La_share kl_La_110 ks_La_share kn_La kd_La_share rfl rfl ⟨Nat.le_of_ble_eq_true rfl, Nat.le_of_ble_eq_true rfl⟩ rfl rfl (Nat.le_of_ble_eq_true rfl) ⟨by show _ ≤ 601024; omega, by show _ ≤ 7293000; omega⟩ d_La_law_544 ?_
  refine g_istore (lv' := [(5, .int (nI 1)), (4, .int (nI ti)), (3, .ref oa), (2, .ref (am 0)), (1, .ref (ad 0)), (0, .ref sb)]) E d_La_law_547 (by decide) rfl ?_
  refine g_aload_n E d_La_law_549 rfl 3 rfl ?_
  refine g_aload_n E d_La_law_550 rfl 5 rfl ?_
  refine g_iload E d_La_law_551 1 rfl ?_
  refine g_iconst (v := nI 1) E d_La_law_553 (by decide) ?_
  refine g_iadd E d_La_law_554 ?_
  refine g_topi (nI_add _ _) ?_
  refine g_scr E hX hbl (by omega) (by omega) d_La_law_555 ?_
  refine g_topi hx1 ?_
  refine g_aload_n E d_La_law_556 rfl 5 rfl ?_
  refine g_iload E d_La_law_557 1 rfl ?_
  refine g_iconst (v := nI 2) E d_La_law_559 (by decide) ?_
  refine g_iadd E d_La_law_560 ?_
  refine g_topi (nI_add _ _) ?_
  refine g_scr E hX hbl (by omega) (by omega) d_La_law_561 ?_
  refine g_topi hx2 ?_
  refine g_aload_n E d_La_law_562 rfl 5 rfl ?_
  refine g_iload E d_La_law_563 1 rfl ?_
  refine g_iconst (v := nI 3) E d_La_law_565 (by decide) ?_
  refine g_iadd E d_La_law_566 ?_
  refine g_topi (nI_add _ _) ?_
  refine g_scr E hX hbl (by omega) (by omega) d_La_law_567 ?_
  refine g_topi hx3 ?_
  refine gwVl (w := wG V oa ad r1 r2 r3 am ou nY ix bu np st sr sx tk rn sh sn yw nw yo ce wo po ne cs sv mk sp rs bg dp th_ nY_ ix_ bu_ np_ st_ sr_ go_ ca_ nw_ yo_ ce_ wo_ po_ ne_ sv_ cl_ mk_ bg_ dp_ sh_ nx_ spn_) (w' := wG V oa ad r1 r2 r3 am ou nY ix bu np st sr sx tk rn sh sn yw nw yo ce wo po ne cs sv mk sp rs bg dp 1 nY_ ix_ bu_ np_ st_ sr_ go_ ca_ nw_ yo_ ce_ wo_ po_ ne_ sv_ cl_ mk_ bg_ dp_ sh_ nx_ spn_) (mc := 0) (ms := 0) (As := [.int x, .int a, .int y]) (rest := []) E (fun _ h => h) 57 wG_am rfl (fl (pre := (oa, aX V ou) :: wC V ad r1 r2 r3 nY ix bu np st sr sx tk rn sh sn yw nw yo ce wo po ne cs sv mk sp rs bg dp) (Y_Mo_share l x a y hnp_ hst_ hY_ hb_)) (cs_La_112 E rfl rfl ⟨Nat.le_of_ble_eq_true rfl, Nat.le_of_ble_eq_true rfl⟩) rfl rfl (Nat.le_of_ble_eq_true rfl) ⟨by show _ ≤ 601024; omega, by show _ ≤ 7293000; omega⟩ d_La_law_568 ?_
  refine g_lstore (lv' := [(6, .long (lN 0)), (5, .int (nI 1)), (4, .int (nI ti)), (3, .ref oa), (2, .ref (am 0)), (1, .ref (ad 0)), (0, .ref sb)]) E d_La_law_571 (by decide) rfl ?_
  refine g_aload_n E d_La_law_573 rfl 4 rfl ?_
  refine gpVi (As := []) (rest := []) E gO_w 57 wG_am rfl (fpi0 (pre := (oa, aX V ou) :: wC V ad r1 r2 r3 nY ix bu np st sr sx tk rn sh sn yw nw yo ce wo po ne cs sv mk sp rs bg dp) (C_Mo_thrown l)) (cs_La_92 E rfl rfl ⟨Nat.le_of_ble_eq_true rfl, Nat.le_of_ble_eq_true rfl⟩) rfl rfl (Nat.le_of_ble_eq_true rfl) ⟨by show _ ≤ 601024; omega, by show _ ≤ 7293000; omega⟩ d_La_law_574 ?_
  refine g_iload E d_La_law_577 1 rfl ?_
  refine g_ncmp_eq E 584 d_La_law_579 (by decide) (by omega) (by omega) (fun h1 => ?_) (fun h1 => ?_)
  · refine g_iload E d_La_law_584 1 rfl ?_
    refine g_nif_ne E 600 d_La_law_586 (by decide) (by decide) (fun _ => ?_) (fun h2 => absurd h2 (by decide))
    refine g_goto E 1527 d_La_law_600 (by decide) ?_
    refine g_lv [2, 3, 4, 5, 6] rfl ?_
    exact kk
  · exact absurd rfl h1

set_option maxHeartbeats 4000000 in
set_option maxRecDepth 100000 in
theorem K_cares_x {p : Program} {l : Launch} {e : Env} {s : State} {m : MethodId} {below : List Frame} {meth : Method} {c : Code} {V : gV} {sb LL ti cells slots : Nat} {xs : Nat → Int32} {oa : Nat} {am : Nat → Nat} {ou : Int64} {ad r1 r2 r3 : Nat → Nat} {nY : Nat} {ix bu : Nat → Nat} {np : Nat} {st sr : Nat → Nat} {sx tk : Nat → Nat → Nat} {rn sh sn : Nat → Nat} {yw nw : Nat} {yo ce wo : Nat → Nat} {po ne : Nat → Option Nat} {cs : Nat → Nat} {sv : Nat → Nat → Nat} {mk : Nat} {sp rs : Nat → Int} {bg dp : Nat} {th_ nY_ : Nat} {ix_ bu_ : Nat → Nat} {np_ : Nat} {st_ sr_ go_ ca_ : Nat → Nat} {nw_ : Nat} {yo_ ce_ wo_ : Nat → Nat} {po_ ne_ : Nat → Option Nat} {sv_ : Nat → Nat} {cl_ : Nat → Bool} {mk_ bg_ dp_ : Nat} {sh_ nx_ : Nat → Nat} {spn_ : Int} (E : gE p s m #[Value.ref sb] c code 8 R_La V) (hX : va_X sb LL xs s s.heap) (hbl : sb < s.heap.size) (hXJ : XJ s) (hfl : l.flags = flags0) (hL : LL ≤ 2561) (hiL : ti + 5 ≤ LL) (hcl : cells + 1 ≤ 601024) (hsl : slots + 6 ≤ 7293000) (x y : Int32) (hb : (inR x (nI np) && inR y (nI nY)) = false) (hnp_ : np_ ≤ 12) (hY_ : nY_ ≤ 12) (hb_ : (inR x (nI np_) && inR y (nI nY_)) = false) (hx1 : xs (ti + 1) = x) (hx2 : xs (ti + 2) = y)  (kk : gg p l e room_1 s m #[Value.ref sb] below meth c 8 (lw_Z below #[Value.ref sb] s) (cells + 1) (slots + 6) (gW V (fun q => s.heap.size ≤ q) s.heap (wG V oa ad r1 r2 r3 am ou nY ix bu np st sr sx tk rn sh sn yw nw yo ce wo po ne cs sv mk sp rs bg dp 1 nY_ ix_ bu_ np_ st_ sr_ go_ ca_ nw_ yo_ ce_ wo_ po_ ne_ sv_ cl_ mk_ bg_ dp_ sh_ nx_ spn_)) [(4, .int (nI ti)), (3, .ref oa), (2, .ref (am 0)), (1, .ref (ad 0)), (0, .ref sb)] 1527 []) : gg p l e room_1 s m #[Value.ref sb] below meth c 8 (lw_Z below #[Value.ref sb] s) cells slots (gW V (fun q => s.heap.size ≤ q) s.heap (wG V oa ad r1 r2 r3 am ou nY ix bu np st sr sx tk rn sh sn yw nw yo ce wo po ne cs sv mk sp rs bg dp th_ nY_ ix_ bu_ np_ st_ sr_ go_ ca_ nw_ yo_ ce_ wo_ po_ ne_ sv_ cl_ mk_ bg_ dp_ sh_ nx_ spn_)) [(4, .int (nI ti)), (3, .ref oa), (2, .ref (am 0)), (1, .ref (ad 0)), (0, .ref sb)] 603 [] := by
  refine g_aload_n E d_La_law_603 rfl 3 rfl ?_
  refine g_aload_n E d_La_law_604 rfl 4 rfl ?_
  refine g_iload E d_La_law_605 0 rfl ?_
  refine g_iconst (v := nI 1) E d_La_law_607 (by decide) ?_
  refine g_iadd E d_La_law_608 ?_
  refine g_topi (nI_add _ _) ?_
  refine g_scr E hX hbl (by omega) (by omega) d_La_law_609 ?_
  refine g_topi hx1 ?_
  refine g_aload_n E d_La_law_610 rfl 4 rfl ?_
  refine g_iload E d_La_law_611 0 rfl ?_
  refine g_iconst (v := nI 2) E d_La_law_613 (by decide) ?_
  refine g_iadd E d_La_law_614 ?_
  refine g_topi (nI_add _ _) ?_
  refine g_scr E hX hbl (by omega) (by omega) d_La_law_615 ?_
  refine g_topi hx2 ?_
  refine g_aload_n E d_La_law_616 rfl 1 rfl ?_
  refine gbLi (w := wG V oa ad r1 r2 r3 am ou nY ix bu np st sr sx tk rn sh sn yw nw yo ce wo po ne cs sv mk sp rs bg dp th_ nY_ ix_ bu_ np_ st_ sr_ go_ ca_ nw_ yo_ ce_ wo_ po_ ne_ sv_ cl_ mk_ bg_ dp_ sh_ nx_ spn_) (As := [.ref (ad 0), .int x, .int y, .ref oa]) (rest := []) E hXJ (fbi (post := wM V am th_ nY_ ix_ bu_ np_ st_ sr_ go_ ca_ nw_ yo_ ce_ wo_ po_ ne_ sv_ cl_ mk_ bg_ dp_ sh_ nx_ spn_) (B_CY_cares l hfl (oa := oa) (ou := ou) x y hb)) kc_La_cares kl_La_113 ks_La_cares kn_La kd_La_cares rfl rfl ⟨Nat.le_of_ble_eq_true rfl, Nat.le_of_ble_eq_true rfl⟩ rfl rfl (Nat.le_of_ble_eq_true rfl) ⟨by show _ ≤ 601024; omega, by show _ ≤ 7293000; omega⟩ d_La_law_617 ?_
  refine g_istore (lv' := [(5, .int (nI 1)), (4, .int (nI ti)), (3, .ref oa), (2, .ref (am 0)), (1, .ref (ad 0)), (0, .ref sb)]) E d_La_law_620 (by decide) rfl ?_
  refine g_aload_n E d_La_law_622 rfl 3 rfl ?_
  refine g_aload_n E d_La_law_623 rfl 5 rfl ?_
  refine g_iload E d_La_law_624 1 rfl ?_
  refine g_iconst (v := nI 1) E d_La_law_626 (by decide) ?_
  refine g_iadd E d_La_law_627 ?_
  refine g_topi (nI_add _ _) ?_
  refine g_scr E hX hbl (by omega) (by omega) d_La_law_628 ?_
  refine g_topi hx1 ?_
  refine g_aload_n E d_La_law_629 rfl 5 rfl ?_
  refine g_iload E d_La_law_630 1 rfl ?_
  refine g_iconst (v := nI 2) E d_La_law_632 (by decide) ?_
  refine g_iadd E d_La_law_633 ?_
  refine g_topi (nI_add _ _) ?_
  refine g_scr E hX hbl (by omega) (by omega) d_La_law_634 ?_
  refine g_topi hx2 ?_
  refine gwVi (w := wG V oa ad r1 r2 r3 am ou nY ix bu np st sr sx tk rn sh sn yw nw yo ce wo po ne cs sv mk sp rs bg dp th_ nY_ ix_ bu_ np_ st_ sr_ go_ ca_ nw_ yo_ ce_ wo_ po_ ne_ sv_ cl_ mk_ bg_ dp_ sh_ nx_ spn_) (w' := wG V oa ad r1 r2 r3 am ou nY ix bu np st sr sx tk rn sh sn yw nw yo ce wo po ne cs sv mk sp rs bg dp 1 nY_ ix_ bu_ np_ st_ sr_ go_ ca_ nw_ yo_ ce_ wo_ po_ ne_ sv_ cl_ mk_ bg_ dp_ sh_ nx_ spn_) (mc := 0) (ms := 0) (As := [.int x, .int y]) (rest := []) E (fun _ h => h) 57 wG_am rfl (fi (pre := (oa, aX V ou) :: wC V ad r1 r2 r3 nY ix bu np st sr sx tk rn sh sn yw nw yo ce wo po ne cs sv mk sp rs bg dp) (Y_Mo_cares l x y hnp_ hY_ hb_)) (cs_La_115 E rfl rfl ⟨Nat.le_of_ble_eq_true rfl, Nat.le_of_ble_eq_true rfl⟩) rfl rfl (Nat.le_of_ble_eq_true rfl) ⟨by show _ ≤ 601024; omega, by show _ ≤ 7293000; omega⟩ d_La_law_635 ?_
  refine g_istore (lv' := [(6, .int (nI 0)), (5, .int (nI 1)), (4, .int (nI ti)), (3, .ref oa), (2, .ref (am 0)), (1, .ref (ad 0)), (0, .ref sb)]) E d_La_law_638 (by decide) rfl ?_
  refine g_aload_n E d_La_law_640 rfl 4 rfl ?_
  refine gpVi (As := []) (rest := []) E gO_w 57 wG_am rfl (fpi0 (pre := (oa, aX V ou) :: wC V ad r1 r2 r3 nY ix bu np st sr sx tk rn sh sn yw nw yo ce wo po ne cs sv mk sp rs bg dp) (C_Mo_thrown l)) (cs_La_92 E rfl rfl ⟨Nat.le_of_ble_eq_true rfl, Nat.le_of_ble_eq_true rfl⟩) rfl rfl (Nat.le_of_ble_eq_true rfl) ⟨by show _ ≤ 601024; omega, by show _ ≤ 7293000; omega⟩ d_La_law_641 ?_
  refine g_iload E d_La_law_644 1 rfl ?_
  refine g_ncmp_eq E 651 d_La_law_646 (by decide) (by omega) (by omega) (fun h1 => ?_) (fun h1 => ?_)
  · refine g_iload E d_La_law_651 1 rfl ?_
    refine g_nif_ne E 668 d_La_law_653 (by decide) (by decide) (fun _ => ?_) (fun h2 => absurd h2 (by decide))
    refine g_goto E 1527 d_La_law_668 (by decide) ?_
    refine g_lv [2, 3, 4, 5, 6] rfl ?_
    exact kk
  · exact absurd rfl h1

set_option maxHeartbeats 4000000 in
set_option maxRecDepth 100000 in
theorem K_most_x {p : Program} {l : Launch} {e : Env} {s : State} {m : MethodId} {below : List Frame} {meth : Method} {c : Code} {V : gV} {sb LL ti cells slots : Nat} {xs : Nat → Int32} {oa : Nat} {am : Nat → Nat} {ou : Int64} {ad r1 r2 r3 : Nat → Nat} {nY : Nat} {ix bu : Nat → Nat} {np : Nat} {st sr : Nat → Nat} {sx tk : Nat → Nat → Nat} {rn sh sn : Nat → Nat} {yw nw : Nat} {yo ce wo : Nat → Nat} {po ne : Nat → Option Nat} {cs : Nat → Nat} {sv : Nat → Nat → Nat} {mk : Nat} {sp rs : Nat → Int} {bg dp : Nat} {th_ nY_ : Nat} {ix_ bu_ : Nat → Nat} {np_ : Nat} {st_ sr_ go_ ca_ : Nat → Nat} {nw_ : Nat} {yo_ ce_ wo_ : Nat → Nat} {po_ ne_ : Nat → Option Nat} {sv_ : Nat → Nat} {cl_ : Nat → Bool} {mk_ bg_ dp_ : Nat} {sh_ nx_ : Nat → Nat} {spn_ : Int} (E : gE p s m #[Value.ref sb] c code 8 R_La V) (hX : va_X sb LL xs s s.heap) (hbl : sb < s.heap.size) (hXJ : XJ s) (hfl : l.flags = flags0) (hL : LL ≤ 2561) (hiL : ti + 5 ≤ LL) (hcl : cells + 1 ≤ 601024) (hsl : slots + 6 ≤ 7293000) (x y : Int32) (hb : (inR x (nI np) && inR y (nI nY)) = false) (hnp_ : np_ ≤ 12) (hY_ : nY_ ≤ 12) (hb_ : (inR x (nI np_) && inR y (nI nY_)) = false) (hx1 : xs (ti + 1) = x) (hx2 : xs (ti + 2) = y)  (kk : gg p l e room_1 s m #[Value.ref sb] below meth c 8 (lw_Z below #[Value.ref sb] s) (cells + 1) (slots + 6) (gW V (fun q => s.heap.size ≤ q) s.heap (wG V oa ad r1 r2 r3 am ou nY ix bu np st sr sx tk rn sh sn yw nw yo ce wo po ne cs sv mk sp rs bg dp 1 nY_ ix_ bu_ np_ st_ sr_ go_ ca_ nw_ yo_ ce_ wo_ po_ ne_ sv_ cl_ mk_ bg_ dp_ sh_ nx_ spn_)) [(4, .int (nI ti)), (3, .ref oa), (2, .ref (am 0)), (1, .ref (ad 0)), (0, .ref sb)] 1527 []) : gg p l e room_1 s m #[Value.ref sb] below meth c 8 (lw_Z below #[Value.ref sb] s) cells slots (gW V (fun q => s.heap.size ≤ q) s.heap (wG V oa ad r1 r2 r3 am ou nY ix bu np st sr sx tk rn sh sn yw nw yo ce wo po ne cs sv mk sp rs bg dp th_ nY_ ix_ bu_ np_ st_ sr_ go_ ca_ nw_ yo_ ce_ wo_ po_ ne_ sv_ cl_ mk_ bg_ dp_ sh_ nx_ spn_)) [(4, .int (nI ti)), (3, .ref oa), (2, .ref (am 0)), (1, .ref (ad 0)), (0, .ref sb)] 671 [] := by
  refine g_aload_n E d_La_law_671 rfl 3 rfl ?_
  refine g_aload_n E d_La_law_672 rfl 4 rfl ?_
  refine g_iload E d_La_law_673 0 rfl ?_
  refine g_iconst (v := nI 1) E d_La_law_675 (by decide) ?_
  refine g_iadd E d_La_law_676 ?_
  refine g_topi (nI_add _ _) ?_
  refine g_scr E hX hbl (by omega) (by omega) d_La_law_677 ?_
  refine g_topi hx1 ?_
  refine g_aload_n E d_La_law_678 rfl 4 rfl ?_
  refine g_iload E d_La_law_679 0 rfl ?_
  refine g_iconst (v := nI 2) E d_La_law_681 (by decide) ?_
  refine g_iadd E d_La_law_682 ?_
  refine g_topi (nI_add _ _) ?_
  refine g_scr E hX hbl (by omega) (by omega) d_La_law_683 ?_
  refine g_topi hx2 ?_
  refine g_aload_n E d_La_law_684 rfl 1 rfl ?_
  refine gbLi (w := wG V oa ad r1 r2 r3 am ou nY ix bu np st sr sx tk rn sh sn yw nw yo ce wo po ne cs sv mk sp rs bg dp th_ nY_ ix_ bu_ np_ st_ sr_ go_ ca_ nw_ yo_ ce_ wo_ po_ ne_ sv_ cl_ mk_ bg_ dp_ sh_ nx_ spn_) (As := [.ref (ad 0), .int x, .int y, .ref oa]) (rest := []) E hXJ (fbi (post := wM V am th_ nY_ ix_ bu_ np_ st_ sr_ go_ ca_ nw_ yo_ ce_ wo_ po_ ne_ sv_ cl_ mk_ bg_ dp_ sh_ nx_ spn_) (B_CY_most l hfl (oa := oa) (ou := ou) x y hb)) kc_La_most kl_La_116 ks_La_most kn_La kd_La_most rfl rfl ⟨Nat.le_of_ble_eq_true rfl, Nat.le_of_ble_eq_true rfl⟩ rfl rfl (Nat.le_of_ble_eq_true rfl) ⟨by show _ ≤ 601024; omega, by show _ ≤ 7293000; omega⟩ d_La_law_685 ?_
  refine g_istore (lv' := [(5, .int (nI 1)), (4, .int (nI ti)), (3, .ref oa), (2, .ref (am 0)), (1, .ref (ad 0)), (0, .ref sb)]) E d_La_law_688 (by decide) rfl ?_
  refine g_aload_n E d_La_law_690 rfl 3 rfl ?_
  refine g_aload_n E d_La_law_691 rfl 5 rfl ?_
  refine g_iload E d_La_law_692 1 rfl ?_
  refine g_iconst (v := nI 1) E d_La_law_694 (by decide) ?_
  refine g_iadd E d_La_law_695 ?_
  refine g_topi (nI_add _ _) ?_
  refine g_scr E hX hbl (by omega) (by omega) d_La_law_696 ?_
  refine g_topi hx1 ?_
  refine g_aload_n E d_La_law_697 rfl 5 rfl ?_
  refine g_iload E d_La_law_698 1 rfl ?_
  refine g_iconst (v := nI 2) E d_La_law_700 (by decide) ?_
  refine g_iadd E d_La_law_701 ?_
  refine g_topi (nI_add _ _) ?_
  refine g_scr E hX hbl (by omega) (by omega) d_La_law_702 ?_
  refine g_topi hx2 ?_
  refine gwVi (w := wG V oa ad r1 r2 r3 am ou nY ix bu np st sr sx tk rn sh sn yw nw yo ce wo po ne cs sv mk sp rs bg dp th_ nY_ ix_ bu_ np_ st_ sr_ go_ ca_ nw_ yo_ ce_ wo_ po_ ne_ sv_ cl_ mk_ bg_ dp_ sh_ nx_ spn_) (w' := wG V oa ad r1 r2 r3 am ou nY ix bu np st sr sx tk rn sh sn yw nw yo ce wo po ne cs sv mk sp rs bg dp 1 nY_ ix_ bu_ np_ st_ sr_ go_ ca_ nw_ yo_ ce_ wo_ po_ ne_ sv_ cl_ mk_ bg_ dp_ sh_ nx_ spn_) (mc := 0) (ms := 0) (As := [.int x, .int y]) (rest := []) E (fun _ h => h) 57 wG_am rfl (fi (pre := (oa, aX V ou) :: wC V ad r1 r2 r3 nY ix bu np st sr sx tk rn sh sn yw nw yo ce wo po ne cs sv mk sp rs bg dp) (Y_Mo_most l x y hnp_ hY_ hb_)) (cs_La_118 E rfl rfl ⟨Nat.le_of_ble_eq_true rfl, Nat.le_of_ble_eq_true rfl⟩) rfl rfl (Nat.le_of_ble_eq_true rfl) ⟨by show _ ≤ 601024; omega, by show _ ≤ 7293000; omega⟩ d_La_law_703 ?_
  refine g_istore (lv' := [(6, .int (nI 0)), (5, .int (nI 1)), (4, .int (nI ti)), (3, .ref oa), (2, .ref (am 0)), (1, .ref (ad 0)), (0, .ref sb)]) E d_La_law_706 (by decide) rfl ?_
  refine g_aload_n E d_La_law_708 rfl 4 rfl ?_
  refine gpVi (As := []) (rest := []) E gO_w 57 wG_am rfl (fpi0 (pre := (oa, aX V ou) :: wC V ad r1 r2 r3 nY ix bu np st sr sx tk rn sh sn yw nw yo ce wo po ne cs sv mk sp rs bg dp) (C_Mo_thrown l)) (cs_La_92 E rfl rfl ⟨Nat.le_of_ble_eq_true rfl, Nat.le_of_ble_eq_true rfl⟩) rfl rfl (Nat.le_of_ble_eq_true rfl) ⟨by show _ ≤ 601024; omega, by show _ ≤ 7293000; omega⟩ d_La_law_709 ?_
  refine g_iload E d_La_law_712 1 rfl ?_
  refine g_ncmp_eq E 719 d_La_law_714 (by decide) (by omega) (by omega) (fun h1 => ?_) (fun h1 => ?_)
  · refine g_iload E d_La_law_719 1 rfl ?_
    refine g_nif_ne E 736 d_La_law_721 (by decide) (by decide) (fun _ => ?_) (fun h2 => absurd h2 (by decide))
    refine g_goto E 1527 d_La_law_736 (by decide) ?_
    refine g_lv [2, 3, 4, 5, 6] rfl ?_
    exact kk
  · exact absurd rfl h1

set_option maxHeartbeats 4000000 in
set_option maxRecDepth 100000 in
theorem K_work_1_x {p : Program} {l : Launch} {e : Env} {s : State} {m : MethodId} {below : List Frame} {meth : Method} {c : Code} {V : gV} {sb LL ti cells slots : Nat} {xs : Nat → Int32} {oa : Nat} {am : Nat → Nat} {ou : Int64} {ad r1 r2 r3 : Nat → Nat} {nY : Nat} {ix bu : Nat → Nat} {np : Nat} {st sr : Nat → Nat} {sx tk : Nat → Nat → Nat} {rn sh sn : Nat → Nat} {yw nw : Nat} {yo ce wo : Nat → Nat} {po ne : Nat → Option Nat} {cs : Nat → Nat} {sv : Nat → Nat → Nat} {mk : Nat} {sp rs : Nat → Int} {bg dp : Nat} {th_ nY_ : Nat} {ix_ bu_ : Nat → Nat} {np_ : Nat} {st_ sr_ go_ ca_ : Nat → Nat} {nw_ : Nat} {yo_ ce_ wo_ : Nat → Nat} {po_ ne_ : Nat → Option Nat} {sv_ : Nat → Nat} {cl_ : Nat → Bool} {mk_ bg_ dp_ : Nat} {sh_ nx_ : Nat → Nat} {spn_ : Int} (E : gE p s m #[Value.ref sb] c code 8 R_La V) (hX : va_X sb LL xs s s.heap) (hbl : sb < s.heap.size) (hXJ : XJ s) (hfl : l.flags = flags0) (hL : LL ≤ 2561) (hiL : ti + 5 ≤ LL) (hcl : cells + 1 ≤ 601024) (hsl : slots + 6 ≤ 7293000) (y k v q : Int32) (hb : (inR y (nI nY) && (decide (q = oN none) || inR q (nI np))) = false) (hnp_ : np_ ≤ 12) (hY_ : nY_ ≤ 12) (hnw_ : nw_ ≤ 10) (hb_ : (inR y (nI nY_) && (decide (q = oN none) || inR q (nI np_))) = false) (hx1 : xs (ti + 1) = y) (hx2 : xs (ti + 2) = k) (hx3 : xs (ti + 3) = v) (hx4 : xs (ti + 4) = q)  (kk : gg p l e room_1 s m #[Value.ref sb] below meth c 8 (lw_Z below #[Value.ref sb] s) (cells + 1) (slots + 6) (gW V (fun q => s.heap.size ≤ q) s.heap (wG V oa ad r1 r2 r3 am ou nY ix bu np st sr sx tk rn sh sn yw nw yo ce wo po ne cs sv mk sp rs bg dp 1 nY_ ix_ bu_ np_ st_ sr_ go_ ca_ nw_ yo_ ce_ wo_ po_ ne_ sv_ cl_ mk_ bg_ dp_ sh_ nx_ spn_)) [(4, .int (nI ti)), (3, .ref oa), (2, .ref (am 0)), (1, .ref (ad 0)), (0, .ref sb)] 1527 []) : gg p l e room_1 s m #[Value.ref sb] below meth c 8 (lw_Z below #[Value.ref sb] s) cells slots (gW V (fun q => s.heap.size ≤ q) s.heap (wG V oa ad r1 r2 r3 am ou nY ix bu np st sr sx tk rn sh sn yw nw yo ce wo po ne cs sv mk sp rs bg dp th_ nY_ ix_ bu_ np_ st_ sr_ go_ ca_ nw_ yo_ ce_ wo_ po_ ne_ sv_ cl_ mk_ bg_ dp_ sh_ nx_ spn_)) [(4, .int (nI ti)), (3, .ref oa), (2, .ref (am 0)), (1, .ref (ad 0)), (0, .ref sb)] 739 [] := by
  refine g_aload_n E d_La_law_739 rfl 3 rfl ?_
  refine g_aload_n E d_La_law_740 rfl 4 rfl ?_
  refine g_iload E d_La_law_741 0 rfl ?_
  refine g_iconst (v := nI 1) E d_La_law_743 (by decide) ?_
  refine g_iadd E d_La_law_744 ?_
  refine g_topi (nI_add _ _) ?_
  refine g_scr E hX hbl (by omega) (by omega) d_La_law_745 ?_
  refine g_topi hx1 ?_
  refine g_aload_n E d_La_law_746 rfl 4 rfl ?_
  refine g_iload E d_La_law_747 0 rfl ?_
  refine g_iconst (v := nI 2) E d_La_law_749 (by decide) ?_
  refine g_iadd E d_La_law_750 ?_
  refine g_topi (nI_add _ _) ?_
  refine g_scr E hX hbl (by omega) (by omega) d_La_law_751 ?_
  refine g_topi hx2 ?_
  refine g_aload_n E d_La_law_752 rfl 4 rfl ?_
  refine g_iload E d_La_law_753 0 rfl ?_
  refine g_iconst (v := nI 3) E d_La_law_755 (by decide) ?_
  refine g_iadd E d_La_law_756 ?_
  refine g_topi (nI_add _ _) ?_
  refine g_scr E hX hbl (by omega) (by omega) d_La_law_757 ?_
  refine g_topi hx3 ?_
  refine g_aload_n E d_La_law_758 rfl 4 rfl ?_
  refine g_iload E d_La_law_759 0 rfl ?_
  refine g_iconst (v := nI 4) E d_La_law_761 (by decide) ?_
  refine g_iadd E d_La_law_762 ?_
  refine g_topi (nI_add _ _) ?_
  refine g_scr E hX hbl (by omega) (by omega) d_La_law_763 ?_
  refine g_topi hx4 ?_
  refine g_aload_n E d_La_law_764 rfl 1 rfl ?_
  refine gbLi (w := wG V oa ad r1 r2 r3 am ou nY ix bu np st sr sx tk rn sh sn yw nw yo ce wo po ne cs sv mk sp rs bg dp th_ nY_ ix_ bu_ np_ st_ sr_ go_ ca_ nw_ yo_ ce_ wo_ po_ ne_ sv_ cl_ mk_ bg_ dp_ sh_ nx_ spn_) (As := [.ref (ad 0), .int y, .int k, .int v, .int q, .ref oa]) (rest := []) E hXJ (fbi (post := wM V am th_ nY_ ix_ bu_ np_ st_ sr_ go_ ca_ nw_ yo_ ce_ wo_ po_ ne_ sv_ cl_ mk_ bg_ dp_ sh_ nx_ spn_) (B_CY_work_1 l hfl (oa := oa) (ou := ou) y k v q hb)) kc_La_work kl_La_119 ks_La_work kn_La kd_La_work rfl rfl ⟨Nat.le_of_ble_eq_true rfl, Nat.le_of_ble_eq_true rfl⟩ rfl rfl (Nat.le_of_ble_eq_true rfl) ⟨by show _ ≤ 601024; omega, by show _ ≤ 7293000; omega⟩ d_La_law_765 ?_
  refine g_istore (lv' := [(5, .int (nI 1)), (4, .int (nI ti)), (3, .ref oa), (2, .ref (am 0)), (1, .ref (ad 0)), (0, .ref sb)]) E d_La_law_768 (by decide) rfl ?_
  refine g_aload_n E d_La_law_770 rfl 3 rfl ?_
  refine g_aload_n E d_La_law_771 rfl 5 rfl ?_
  refine g_iload E d_La_law_772 1 rfl ?_
  refine g_iconst (v := nI 1) E d_La_law_774 (by decide) ?_
  refine g_iadd E d_La_law_775 ?_
  refine g_topi (nI_add _ _) ?_
  refine g_scr E hX hbl (by omega) (by omega) d_La_law_776 ?_
  refine g_topi hx1 ?_
  refine g_aload_n E d_La_law_777 rfl 5 rfl ?_
  refine g_iload E d_La_law_778 1 rfl ?_
  refine g_iconst (v := nI 2) E d_La_law_780 (by decide) ?_
  refine g_iadd E d_La_law_781 ?_
  refine g_topi (nI_add _ _) ?_
  refine g_scr E hX hbl (by omega) (by omega) d_La_law_782 ?_
  refine g_topi hx2 ?_
  refine g_aload_n E d_La_law_783 rfl 5 rfl ?_
  refine g_iload E d_La_law_784 1 rfl ?_
  refine g_iconst (v := nI 3) E d_La_law_786 (by decide) ?_
  refine g_iadd E d_La_law_787 ?_
  refine g_topi (nI_add _ _) ?_
  refine g_scr E hX hbl (by omega) (by omega) d_La_law_788 ?_
  refine g_topi hx3 ?_
  refine g_aload_n E d_La_law_789 rfl 5 rfl ?_
  refine g_iload E d_La_law_790 1 rfl ?_
  refine g_iconst (v := nI 4) E d_La_law_792 (by decide) ?_
  refine g_iadd E d_La_law_793 ?_
  refine g_topi (nI_add _ _) ?_
  refine g_scr E hX hbl (by omega) (by omega) d_La_law_794 ?_
  refine g_topi hx4 ?_
  refine gwVi (w := wG V oa ad r1 r2 r3 am ou nY ix bu np st sr sx tk rn sh sn yw nw yo ce wo po ne cs sv mk sp rs bg dp th_ nY_ ix_ bu_ np_ st_ sr_ go_ ca_ nw_ yo_ ce_ wo_ po_ ne_ sv_ cl_ mk_ bg_ dp_ sh_ nx_ spn_) (w' := wG V oa ad r1 r2 r3 am ou nY ix bu np st sr sx tk rn sh sn yw nw yo ce wo po ne cs sv mk sp rs bg dp 1 nY_ ix_ bu_ np_ st_ sr_ go_ ca_ nw_ yo_ ce_ wo_ po_ ne_ sv_ cl_ mk_ bg_ dp_ sh_ nx_ spn_) (mc := 0) (ms := 0) (As := [.int y, .int k, .int v, .int q]) (rest := []) E (fun _ h => h) 57 wG_am rfl (fi (pre := (oa, aX V ou) :: wC V ad r1 r2 r3 nY ix bu np st sr sx tk rn sh sn yw nw yo ce wo po ne cs sv mk sp rs bg dp) (Y_Mo_work_1 l y k v q hnp_ hY_ hnw_ hb_)) (cs_La_121 E rfl rfl ⟨Nat.le_of_ble_eq_true rfl, Nat.le_of_ble_eq_true rfl⟩) rfl rfl (Nat.le_of_ble_eq_true rfl) ⟨by show _ ≤ 601024; omega, by show _ ≤ 7293000; omega⟩ d_La_law_795 ?_
  refine g_istore (lv' := [(6, .int (nI 0)), (5, .int (nI 1)), (4, .int (nI ti)), (3, .ref oa), (2, .ref (am 0)), (1, .ref (ad 0)), (0, .ref sb)]) E d_La_law_798 (by decide) rfl ?_
  refine g_aload_n E d_La_law_800 rfl 4 rfl ?_
  refine gpVi (As := []) (rest := []) E gO_w 57 wG_am rfl (fpi0 (pre := (oa, aX V ou) :: wC V ad r1 r2 r3 nY ix bu np st sr sx tk rn sh sn yw nw yo ce wo po ne cs sv mk sp rs bg dp) (C_Mo_thrown l)) (cs_La_92 E rfl rfl ⟨Nat.le_of_ble_eq_true rfl, Nat.le_of_ble_eq_true rfl⟩) rfl rfl (Nat.le_of_ble_eq_true rfl) ⟨by show _ ≤ 601024; omega, by show _ ≤ 7293000; omega⟩ d_La_law_801 ?_
  refine g_iload E d_La_law_804 1 rfl ?_
  refine g_ncmp_eq E 811 d_La_law_806 (by decide) (by omega) (by omega) (fun h1 => ?_) (fun h1 => ?_)
  · refine g_iload E d_La_law_811 1 rfl ?_
    refine g_nif_ne E 828 d_La_law_813 (by decide) (by decide) (fun _ => ?_) (fun h2 => absurd h2 (by decide))
    refine g_goto E 1527 d_La_law_828 (by decide) ?_
    refine g_lv [2, 3, 4, 5, 6] rfl ?_
    exact kk
  · exact absurd rfl h1

set_option maxHeartbeats 4000000 in
set_option maxRecDepth 100000 in
theorem K_work_2n_x {p : Program} {l : Launch} {e : Env} {s : State} {m : MethodId} {below : List Frame} {meth : Method} {c : Code} {V : gV} {sb LL ti cells slots : Nat} {xs : Nat → Int32} {oa : Nat} {am : Nat → Nat} {ou : Int64} {ad r1 r2 r3 : Nat → Nat} {nY : Nat} {ix bu : Nat → Nat} {np : Nat} {st sr : Nat → Nat} {sx tk : Nat → Nat → Nat} {rn sh sn : Nat → Nat} {yw nw : Nat} {yo ce wo : Nat → Nat} {po ne : Nat → Option Nat} {cs : Nat → Nat} {sv : Nat → Nat → Nat} {mk : Nat} {sp rs : Nat → Int} {bg dp : Nat} {th_ nY_ : Nat} {ix_ bu_ : Nat → Nat} {np_ : Nat} {st_ sr_ go_ ca_ : Nat → Nat} {nw_ : Nat} {yo_ ce_ wo_ : Nat → Nat} {po_ ne_ : Nat → Option Nat} {sv_ : Nat → Nat} {cl_ : Nat → Bool} {mk_ bg_ dp_ : Nat} {sh_ nx_ : Nat → Nat} {spn_ : Int} (E : gE p s m #[Value.ref sb] c code 8 R_La V) (hX : va_X sb LL xs s s.heap) (hbl : sb < s.heap.size) (hXJ : XJ s) (hfl : l.flags = flags0) (hL : LL ≤ 2561) (hiL : ti + 5 ≤ LL) (hcl : cells + 1 ≤ 601024) (hsl : slots + 6 ≤ 7293000) (y : Nat) (k v : Int32)  (hy : y < nY) (hY : nY ≤ 12) (hb : (inB k (nI 1) (nI 1000000) && inB v (nI 0) (nI 1000000)) = false) (hy_ : y < nY_) (hY_ : nY_ ≤ 12) (hnp_ : np_ ≤ 12) (hnw_ : nw_ ≤ 10) (hb_ : (inB k (nI 1) (nI 1000000) && inB v (nI 0) (nI 1000000)) = false) (hx1 : xs (ti + 1) = nI y) (hx2 : xs (ti + 2) = k) (hx3 : xs (ti + 3) = v) (hx4 : xs (ti + 4) = oN none)  (kk : gg p l e room_1 s m #[Value.ref sb] below meth c 8 (lw_Z below #[Value.ref sb] s) (cells + 1) (slots + 6) (gW V (fun q => s.heap.size ≤ q) s.heap (wG V oa ad r1 r2 r3 am ou nY ix bu np st sr sx tk rn sh sn yw nw yo ce wo po ne cs sv mk sp rs bg dp 1 nY_ ix_ bu_ np_ st_ sr_ go_ ca_ nw_ yo_ ce_ wo_ po_ ne_ sv_ cl_ mk_ bg_ dp_ sh_ nx_ spn_)) [(4, .int (nI ti)), (3, .ref oa), (2, .ref (am 0)), (1, .ref (ad 0)), (0, .ref sb)] 1527 []) : gg p l e room_1 s m #[Value.ref sb] below meth c 8 (lw_Z below #[Value.ref sb] s) cells slots (gW V (fun q => s.heap.size ≤ q) s.heap (wG V oa ad r1 r2 r3 am ou nY ix bu np st sr sx tk rn sh sn yw nw yo ce wo po ne cs sv mk sp rs bg dp th_ nY_ ix_ bu_ np_ st_ sr_ go_ ca_ nw_ yo_ ce_ wo_ po_ ne_ sv_ cl_ mk_ bg_ dp_ sh_ nx_ spn_)) [(4, .int (nI ti)), (3, .ref oa), (2, .ref (am 0)), (1, .ref (ad 0)), (0, .ref sb)] 739 [] := by
  refine g_aload_n E d_La_law_739 rfl 3 rfl ?_
  refine g_aload_n E d_La_law_740 rfl 4 rfl ?_
  refine g_iload E d_La_law_741 0 rfl ?_
  refine g_iconst (v := nI 1) E d_La_law_743 (by decide) ?_
  refine g_iadd E d_La_law_744 ?_
  refine g_topi (nI_add _ _) ?_
  refine g_scr E hX hbl (by omega) (by omega) d_La_law_745 ?_
  refine g_topi hx1 ?_
  refine g_aload_n E d_La_law_746 rfl 4 rfl ?_
  refine g_iload E d_La_law_747 0 rfl ?_
  refine g_iconst (v := nI 2) E d_La_law_749 (by decide) ?_
  refine g_iadd E d_La_law_750 ?_
  refine g_topi (nI_add _ _) ?_
  refine g_scr E hX hbl (by omega) (by omega) d_La_law_751 ?_
  refine g_topi hx2 ?_
  refine g_aload_n E d_La_law_752 rfl 4 rfl ?_
  refine g_iload E d_La_law_753 0 rfl ?_
  refine g_iconst (v := nI 3) E d_La_law_755 (by decide) ?_
  refine g_iadd E d_La_law_756 ?_
  refine g_topi (nI_add _ _) ?_
  refine g_scr E hX hbl (by omega) (by omega) d_La_law_757 ?_
  refine g_topi hx3 ?_
  refine g_aload_n E d_La_law_758 rfl 4 rfl ?_
  refine g_iload E d_La_law_759 0 rfl ?_
  refine g_iconst (v := nI 4) E d_La_law_761 (by decide) ?_
  refine g_iadd E d_La_law_762 ?_
  refine g_topi (nI_add _ _) ?_
  refine g_scr E hX hbl (by omega) (by omega) d_La_law_763 ?_
  refine g_topi hx4 ?_
  refine g_aload_n E d_La_law_764 rfl 1 rfl ?_
  refine gbLi (w := wG V oa ad r1 r2 r3 am ou nY ix bu np st sr sx tk rn sh sn yw nw yo ce wo po ne cs sv mk sp rs bg dp th_ nY_ ix_ bu_ np_ st_ sr_ go_ ca_ nw_ yo_ ce_ wo_ po_ ne_ sv_ cl_ mk_ bg_ dp_ sh_ nx_ spn_) (As := [.ref (ad 0), .int (nI y), .int k, .int v, .int (oN none), .ref oa]) (rest := []) E hXJ (fbi (post := wM V am th_ nY_ ix_ bu_ np_ st_ sr_ go_ ca_ nw_ yo_ ce_ wo_ po_ ne_ sv_ cl_ mk_ bg_ dp_ sh_ nx_ spn_) (B_CY_work_2n l hfl (oa := oa) (ou := ou) y k v hy hY hb)) kc_La_work kl_La_119 ks_La_work kn_La kd_La_work rfl rfl ⟨Nat.le_of_ble_eq_true rfl, Nat.le_of_ble_eq_true rfl⟩ rfl rfl (Nat.le_of_ble_eq_true rfl) ⟨by show _ ≤ 601024; omega, by show _ ≤ 7293000; omega⟩ d_La_law_765 ?_
  refine g_istore (lv' := [(5, .int (nI 1)), (4, .int (nI ti)), (3, .ref oa), (2, .ref (am 0)), (1, .ref (ad 0)), (0, .ref sb)]) E d_La_law_768 (by decide) rfl ?_
  refine g_aload_n E d_La_law_770 rfl 3 rfl ?_
  refine g_aload_n E d_La_law_771 rfl 5 rfl ?_
  refine g_iload E d_La_law_772 1 rfl ?_
  refine g_iconst (v := nI 1) E d_La_law_774 (by decide) ?_
  refine g_iadd E d_La_law_775 ?_
  refine g_topi (nI_add _ _) ?_
  refine g_scr E hX hbl (by omega) (by omega) d_La_law_776 ?_
  refine g_topi hx1 ?_
  refine g_aload_n E d_La_law_777 rfl 5 rfl ?_
  refine g_iload E d_La_law_778 1 rfl ?_
  refine g_iconst (v := nI 2) E d_La_law_780 (by decide) ?_
  refine g_iadd E d_La_law_781 ?_
  refine g_topi (nI_add _ _) ?_
  refine g_scr E hX hbl (by omega) (by omega) d_La_law_782 ?_
  refine g_topi hx2 ?_
  refine g_aload_n E d_La_law_783 rfl 5 rfl ?_
  refine g_iload E d_La_law_784 1 rfl ?_
  refine g_iconst (v := nI 3) E d_La_law_786 (by decide) ?_
  refine g_iadd E d_La_law_787 ?_
  refine g_topi (nI_add _ _) ?_
  refine g_scr E hX hbl (by omega) (by omega) d_La_law_788 ?_
  refine g_topi hx3 ?_
  refine g_aload_n E d_La_law_789 rfl 5 rfl ?_
  refine g_iload E d_La_law_790 1 rfl ?_
  refine g_iconst (v := nI 4) E d_La_law_792 (by decide) ?_
  refine g_iadd E d_La_law_793 ?_
  refine g_topi (nI_add _ _) ?_
  refine g_scr E hX hbl (by omega) (by omega) d_La_law_794 ?_
  refine g_topi hx4 ?_
  refine gwVi (w := wG V oa ad r1 r2 r3 am ou nY ix bu np st sr sx tk rn sh sn yw nw yo ce wo po ne cs sv mk sp rs bg dp th_ nY_ ix_ bu_ np_ st_ sr_ go_ ca_ nw_ yo_ ce_ wo_ po_ ne_ sv_ cl_ mk_ bg_ dp_ sh_ nx_ spn_) (w' := wG V oa ad r1 r2 r3 am ou nY ix bu np st sr sx tk rn sh sn yw nw yo ce wo po ne cs sv mk sp rs bg dp 1 nY_ ix_ bu_ np_ st_ sr_ go_ ca_ nw_ yo_ ce_ wo_ po_ ne_ sv_ cl_ mk_ bg_ dp_ sh_ nx_ spn_) (mc := 0) (ms := 0) (As := [.int (nI y), .int k, .int v, .int (oN none)]) (rest := []) E (fun _ h => h) 57 wG_am rfl (fi (pre := (oa, aX V ou) :: wC V ad r1 r2 r3 nY ix bu np st sr sx tk rn sh sn yw nw yo ce wo po ne cs sv mk sp rs bg dp) (Y_Mo_work_2n l y k v hy_ hY_ hnp_ hnw_ hb_)) (cs_La_121 E rfl rfl ⟨Nat.le_of_ble_eq_true rfl, Nat.le_of_ble_eq_true rfl⟩) rfl rfl (Nat.le_of_ble_eq_true rfl) ⟨by show _ ≤ 601024; omega, by show _ ≤ 7293000; omega⟩ d_La_law_795 ?_
  refine g_istore (lv' := [(6, .int (nI 0)), (5, .int (nI 1)), (4, .int (nI ti)), (3, .ref oa), (2, .ref (am 0)), (1, .ref (ad 0)), (0, .ref sb)]) E d_La_law_798 (by decide) rfl ?_
  refine g_aload_n E d_La_law_800 rfl 4 rfl ?_
  refine gpVi (As := []) (rest := []) E gO_w 57 wG_am rfl (fpi0 (pre := (oa, aX V ou) :: wC V ad r1 r2 r3 nY ix bu np st sr sx tk rn sh sn yw nw yo ce wo po ne cs sv mk sp rs bg dp) (C_Mo_thrown l)) (cs_La_92 E rfl rfl ⟨Nat.le_of_ble_eq_true rfl, Nat.le_of_ble_eq_true rfl⟩) rfl rfl (Nat.le_of_ble_eq_true rfl) ⟨by show _ ≤ 601024; omega, by show _ ≤ 7293000; omega⟩ d_La_law_801 ?_
  refine g_iload E d_La_law_804 1 rfl ?_
  refine g_ncmp_eq E 811 d_La_law_806 (by decide) (by omega) (by omega) (fun h1 => ?_) (fun h1 => ?_)
  · refine g_iload E d_La_law_811 1 rfl ?_
    refine g_nif_ne E 828 d_La_law_813 (by decide) (by decide) (fun _ => ?_) (fun h2 => absurd h2 (by decide))
    refine g_goto E 1527 d_La_law_828 (by decide) ?_
    refine g_lv [2, 3, 4, 5, 6] rfl ?_
    exact kk
  · exact absurd rfl h1

set_option maxHeartbeats 4000000 in
set_option maxRecDepth 100000 in
theorem K_work_3n_x {p : Program} {l : Launch} {e : Env} {s : State} {m : MethodId} {below : List Frame} {meth : Method} {c : Code} {V : gV} {sb LL ti cells slots : Nat} {xs : Nat → Int32} {oa : Nat} {am : Nat → Nat} {ou : Int64} {ad r1 r2 r3 : Nat → Nat} {nY : Nat} {ix bu : Nat → Nat} {np : Nat} {st sr : Nat → Nat} {sx tk : Nat → Nat → Nat} {rn sh sn : Nat → Nat} {yw nw : Nat} {yo ce wo : Nat → Nat} {po ne : Nat → Option Nat} {cs : Nat → Nat} {sv : Nat → Nat → Nat} {mk : Nat} {sp rs : Nat → Int} {bg dp : Nat} {th_ nY_ : Nat} {ix_ bu_ : Nat → Nat} {np_ : Nat} {st_ sr_ go_ ca_ : Nat → Nat} {nw_ : Nat} {yo_ ce_ wo_ : Nat → Nat} {po_ ne_ : Nat → Option Nat} {sv_ : Nat → Nat} {cl_ : Nat → Bool} {mk_ bg_ dp_ : Nat} {sh_ nx_ : Nat → Nat} {spn_ : Int} (E : gE p s m #[Value.ref sb] c code 8 R_La V) (hX : va_X sb LL xs s s.heap) (hbl : sb < s.heap.size) (hXJ : XJ s) (hfl : l.flags = flags0) (hL : LL ≤ 2561) (hiL : ti + 5 ≤ LL) (hcl : cells + 1 ≤ 601024) (hsl : slots + 6 ≤ 7293000) (y k v : Nat)  (hy : y < nY) (hY : nY ≤ 12) (h1 : 1 ≤ k) (h2 : k ≤ 1000000) (h3 : v ≤ 1000000) (hnw : nw = 10) (hy_ : y < nY_) (hY_ : nY_ ≤ 12) (hnp_ : np_ ≤ 12) (h1_ : 1 ≤ k) (h2_ : k ≤ 1000000) (h3_ : v ≤ 1000000) (hnw_ : nw_ = 10) (hx1 : xs (ti + 1) = nI y) (hx2 : xs (ti + 2) = nI k) (hx3 : xs (ti + 3) = nI v) (hx4 : xs (ti + 4) = oN none)  (kk : gg p l e room_1 s m #[Value.ref sb] below meth c 8 (lw_Z below #[Value.ref sb] s) (cells + 1) (slots + 6) (gW V (fun q => s.heap.size ≤ q) s.heap (wG V oa ad r1 r2 r3 am ou nY ix bu np st sr sx tk rn sh sn yw nw yo ce wo po ne cs sv mk sp rs bg dp 2 nY_ ix_ bu_ np_ st_ sr_ go_ ca_ nw_ yo_ ce_ wo_ po_ ne_ sv_ cl_ mk_ bg_ dp_ sh_ nx_ spn_)) [(4, .int (nI ti)), (3, .ref oa), (2, .ref (am 0)), (1, .ref (ad 0)), (0, .ref sb)] 1527 []) : gg p l e room_1 s m #[Value.ref sb] below meth c 8 (lw_Z below #[Value.ref sb] s) cells slots (gW V (fun q => s.heap.size ≤ q) s.heap (wG V oa ad r1 r2 r3 am ou nY ix bu np st sr sx tk rn sh sn yw nw yo ce wo po ne cs sv mk sp rs bg dp th_ nY_ ix_ bu_ np_ st_ sr_ go_ ca_ nw_ yo_ ce_ wo_ po_ ne_ sv_ cl_ mk_ bg_ dp_ sh_ nx_ spn_)) [(4, .int (nI ti)), (3, .ref oa), (2, .ref (am 0)), (1, .ref (ad 0)), (0, .ref sb)] 739 [] := by
  refine g_aload_n E d_La_law_739 rfl 3 rfl ?_
  refine g_aload_n E d_La_law_740 rfl 4 rfl ?_
  refine g_iload E d_La_law_741 0 rfl ?_
  refine g_iconst (v := nI 1) E d_La_law_743 (by decide) ?_
  refine g_iadd E d_La_law_744 ?_
  refine g_topi (nI_add _ _) ?_
  refine g_scr E hX hbl (by omega) (by omega) d_La_law_745 ?_
  refine g_topi hx1 ?_
  refine g_aload_n E d_La_law_746 rfl 4 rfl ?_
  refine g_iload E d_La_law_747 0 rfl ?_
  refine g_iconst (v := nI 2) E d_La_law_749 (by decide) ?_
  refine g_iadd E d_La_law_750 ?_
  refine g_topi (nI_add _ _) ?_
  refine g_scr E hX hbl (by omega) (by omega) d_La_law_751 ?_
  refine g_topi hx2 ?_
  refine g_aload_n E d_La_law_752 rfl 4 rfl ?_
  refine g_iload E d_La_law_753 0 rfl ?_
  refine g_iconst (v := nI 3) E d_La_law_755 (by decide) ?_
  refine g_iadd E d_La_law_756 ?_
  refine g_topi (nI_add _ _) ?_
  refine g_scr E hX hbl (by omega) (by omega) d_La_law_757 ?_
  refine g_topi hx3 ?_
  refine g_aload_n E d_La_law_758 rfl 4 rfl ?_
  refine g_iload E d_La_law_759 0 rfl ?_
  refine g_iconst (v := nI 4) E d_La_law_761 (by decide) ?_
  refine g_iadd E d_La_law_762 ?_
  refine g_topi (nI_add _ _) ?_
  refine g_scr E hX hbl (by omega) (by omega) d_La_law_763 ?_
  refine g_topi hx4 ?_
  refine g_aload_n E d_La_law_764 rfl 1 rfl ?_
  refine gbLi (w := wG V oa ad r1 r2 r3 am ou nY ix bu np st sr sx tk rn sh sn yw nw yo ce wo po ne cs sv mk sp rs bg dp th_ nY_ ix_ bu_ np_ st_ sr_ go_ ca_ nw_ yo_ ce_ wo_ po_ ne_ sv_ cl_ mk_ bg_ dp_ sh_ nx_ spn_) (As := [.ref (ad 0), .int (nI y), .int (nI k), .int (nI v), .int (oN none), .ref oa]) (rest := []) E hXJ (fbi (post := wM V am th_ nY_ ix_ bu_ np_ st_ sr_ go_ ca_ nw_ yo_ ce_ wo_ po_ ne_ sv_ cl_ mk_ bg_ dp_ sh_ nx_ spn_) (B_CY_work_3n l hfl (oa := oa) (ou := ou) y k v hy hY h1 h2 h3 hnw)) kc_La_work kl_La_119 ks_La_work kn_La kd_La_work rfl rfl ⟨Nat.le_of_ble_eq_true rfl, Nat.le_of_ble_eq_true rfl⟩ rfl rfl (Nat.le_of_ble_eq_true rfl) ⟨by show _ ≤ 601024; omega, by show _ ≤ 7293000; omega⟩ d_La_law_765 ?_
  refine g_istore (lv' := [(5, .int (nI 2)), (4, .int (nI ti)), (3, .ref oa), (2, .ref (am 0)), (1, .ref (ad 0)), (0, .ref sb)]) E d_La_law_768 (by decide) rfl ?_
  refine g_aload_n E d_La_law_770 rfl 3 rfl ?_
  refine g_aload_n E d_La_law_771 rfl 5 rfl ?_
  refine g_iload E d_La_law_772 1 rfl ?_
  refine g_iconst (v := nI 1) E d_La_law_774 (by decide) ?_
  refine g_iadd E d_La_law_775 ?_
  refine g_topi (nI_add _ _) ?_
  refine g_scr E hX hbl (by omega) (by omega) d_La_law_776 ?_
  refine g_topi hx1 ?_
  refine g_aload_n E d_La_law_777 rfl 5 rfl ?_
  refine g_iload E d_La_law_778 1 rfl ?_
  refine g_iconst (v := nI 2) E d_La_law_780 (by decide) ?_
  refine g_iadd E d_La_law_781 ?_
  refine g_topi (nI_add _ _) ?_
  refine g_scr E hX hbl (by omega) (by omega) d_La_law_782 ?_
  refine g_topi hx2 ?_
  refine g_aload_n E d_La_law_783 rfl 5 rfl ?_
  refine g_iload E d_La_law_784 1 rfl ?_
  refine g_iconst (v := nI 3) E d_La_law_786 (by decide) ?_
  refine g_iadd E d_La_law_787 ?_
  refine g_topi (nI_add _ _) ?_
  refine g_scr E hX hbl (by omega) (by omega) d_La_law_788 ?_
  refine g_topi hx3 ?_
  refine g_aload_n E d_La_law_789 rfl 5 rfl ?_
  refine g_iload E d_La_law_790 1 rfl ?_
  refine g_iconst (v := nI 4) E d_La_law_792 (by decide) ?_
  refine g_iadd E d_La_law_793 ?_
  refine g_topi (nI_add _ _) ?_
  refine g_scr E hX hbl (by omega) (by omega) d_La_law_794 ?_
  refine g_topi hx4 ?_
  refine gwVi (w := wG V oa ad r1 r2 r3 am ou nY ix bu np st sr sx tk rn sh sn yw nw yo ce wo po ne cs sv mk sp rs bg dp th_ nY_ ix_ bu_ np_ st_ sr_ go_ ca_ nw_ yo_ ce_ wo_ po_ ne_ sv_ cl_ mk_ bg_ dp_ sh_ nx_ spn_) (w' := wG V oa ad r1 r2 r3 am ou nY ix bu np st sr sx tk rn sh sn yw nw yo ce wo po ne cs sv mk sp rs bg dp 2 nY_ ix_ bu_ np_ st_ sr_ go_ ca_ nw_ yo_ ce_ wo_ po_ ne_ sv_ cl_ mk_ bg_ dp_ sh_ nx_ spn_) (mc := 0) (ms := 0) (As := [.int (nI y), .int (nI k), .int (nI v), .int (oN none)]) (rest := []) E (fun _ h => h) 57 wG_am rfl (fi (pre := (oa, aX V ou) :: wC V ad r1 r2 r3 nY ix bu np st sr sx tk rn sh sn yw nw yo ce wo po ne cs sv mk sp rs bg dp) (Y_Mo_work_3n l y k v hy_ hY_ hnp_ h1_ h2_ h3_ hnw_)) (cs_La_121 E rfl rfl ⟨Nat.le_of_ble_eq_true rfl, Nat.le_of_ble_eq_true rfl⟩) rfl rfl (Nat.le_of_ble_eq_true rfl) ⟨by show _ ≤ 601024; omega, by show _ ≤ 7293000; omega⟩ d_La_law_795 ?_
  refine g_istore (lv' := [(6, .int (nI 0)), (5, .int (nI 2)), (4, .int (nI ti)), (3, .ref oa), (2, .ref (am 0)), (1, .ref (ad 0)), (0, .ref sb)]) E d_La_law_798 (by decide) rfl ?_
  refine g_aload_n E d_La_law_800 rfl 4 rfl ?_
  refine gpVi (As := []) (rest := []) E gO_w 57 wG_am rfl (fpi0 (pre := (oa, aX V ou) :: wC V ad r1 r2 r3 nY ix bu np st sr sx tk rn sh sn yw nw yo ce wo po ne cs sv mk sp rs bg dp) (C_Mo_thrown l)) (cs_La_92 E rfl rfl ⟨Nat.le_of_ble_eq_true rfl, Nat.le_of_ble_eq_true rfl⟩) rfl rfl (Nat.le_of_ble_eq_true rfl) ⟨by show _ ≤ 601024; omega, by show _ ≤ 7293000; omega⟩ d_La_law_801 ?_
  refine g_iload E d_La_law_804 1 rfl ?_
  refine g_ncmp_eq E 811 d_La_law_806 (by decide) (by omega) (by omega) (fun h1 => ?_) (fun h1 => ?_)
  · refine g_iload E d_La_law_811 1 rfl ?_
    refine g_nif_ne E 828 d_La_law_813 (by decide) (by decide) (fun _ => ?_) (fun h2 => absurd h2 (by decide))
    refine g_goto E 1527 d_La_law_828 (by decide) ?_
    refine g_lv [2, 3, 4, 5, 6] rfl ?_
    exact kk
  · exact absurd rfl h1

set_option maxHeartbeats 4000000 in
set_option maxRecDepth 100000 in
theorem K_work_2s_x {p : Program} {l : Launch} {e : Env} {s : State} {m : MethodId} {below : List Frame} {meth : Method} {c : Code} {V : gV} {sb LL ti cells slots : Nat} {xs : Nat → Int32} {oa : Nat} {am : Nat → Nat} {ou : Int64} {ad r1 r2 r3 : Nat → Nat} {nY : Nat} {ix bu : Nat → Nat} {np : Nat} {st sr : Nat → Nat} {sx tk : Nat → Nat → Nat} {rn sh sn : Nat → Nat} {yw nw : Nat} {yo ce wo : Nat → Nat} {po ne : Nat → Option Nat} {cs : Nat → Nat} {sv : Nat → Nat → Nat} {mk : Nat} {sp rs : Nat → Int} {bg dp : Nat} {th_ nY_ : Nat} {ix_ bu_ : Nat → Nat} {np_ : Nat} {st_ sr_ go_ ca_ : Nat → Nat} {nw_ : Nat} {yo_ ce_ wo_ : Nat → Nat} {po_ ne_ : Nat → Option Nat} {sv_ : Nat → Nat} {cl_ : Nat → Bool} {mk_ bg_ dp_ : Nat} {sh_ nx_ : Nat → Nat} {spn_ : Int} (E : gE p s m #[Value.ref sb] c code 8 R_La V) (hX : va_X sb LL xs s s.heap) (hbl : sb < s.heap.size) (hXJ : XJ s) (hfl : l.flags = flags0) (hL : LL ≤ 2561) (hiL : ti + 5 ≤ LL) (hcl : cells + 1 ≤ 601024) (hsl : slots + 6 ≤ 7293000) (y : Nat) (k v : Int32) (q : Nat) (hq : q < np) (hnp : np ≤ 12) (hy : y < nY) (hY : nY ≤ 12) (hb : (inB k (nI 1) (nI 1000000) && inB v (nI 0) (nI 1000000)) = false) (hq_ : q < np_) (hy_ : y < nY_) (hY_ : nY_ ≤ 12) (hnp_ : np_ ≤ 12) (hnw_ : nw_ ≤ 10) (hb_ : (inB k (nI 1) (nI 1000000) && inB v (nI 0) (nI 1000000)) = false) (hx1 : xs (ti + 1) = nI y) (hx2 : xs (ti + 2) = k) (hx3 : xs (ti + 3) = v) (hx4 : xs (ti + 4) = nI q)  (kk : gg p l e room_1 s m #[Value.ref sb] below meth c 8 (lw_Z below #[Value.ref sb] s) (cells + 1) (slots + 6) (gW V (fun q => s.heap.size ≤ q) s.heap (wG V oa ad r1 r2 r3 am ou nY ix bu np st sr sx tk rn sh sn yw nw yo ce wo po ne cs sv mk sp rs bg dp 1 nY_ ix_ bu_ np_ st_ sr_ go_ ca_ nw_ yo_ ce_ wo_ po_ ne_ sv_ cl_ mk_ bg_ dp_ sh_ nx_ spn_)) [(4, .int (nI ti)), (3, .ref oa), (2, .ref (am 0)), (1, .ref (ad 0)), (0, .ref sb)] 1527 []) : gg p l e room_1 s m #[Value.ref sb] below meth c 8 (lw_Z below #[Value.ref sb] s) cells slots (gW V (fun q => s.heap.size ≤ q) s.heap (wG V oa ad r1 r2 r3 am ou nY ix bu np st sr sx tk rn sh sn yw nw yo ce wo po ne cs sv mk sp rs bg dp th_ nY_ ix_ bu_ np_ st_ sr_ go_ ca_ nw_ yo_ ce_ wo_ po_ ne_ sv_ cl_ mk_ bg_ dp_ sh_ nx_ spn_)) [(4, .int (nI ti)), (3, .ref oa), (2, .ref (am 0)), (1, .ref (ad 0)), (0, .ref sb)] 739 [] := by
  refine g_aload_n E d_La_law_739 rfl 3 rfl ?_
  refine g_aload_n E d_La_law_740 rfl 4 rfl ?_
  refine g_iload E d_La_law_741 0 rfl ?_
  refine g_iconst (v := nI 1) E d_La_law_743 (by decide) ?_
  refine g_iadd E d_La_law_744 ?_
  refine g_topi (nI_add _ _) ?_
  refine g_scr E hX hbl (by omega) (by omega) d_La_law_745 ?_
  refine g_topi hx1 ?_
  refine g_aload_n E d_La_law_746 rfl 4 rfl ?_
  refine g_iload E d_La_law_747 0 rfl ?_
  refine g_iconst (v := nI 2) E d_La_law_749 (by decide) ?_
  refine g_iadd E d_La_law_750 ?_
  refine g_topi (nI_add _ _) ?_
  refine g_scr E hX hbl (by omega) (by omega) d_La_law_751 ?_
  refine g_topi hx2 ?_
  refine g_aload_n E d_La_law_752 rfl 4 rfl ?_
  refine g_iload E d_La_law_753 0 rfl ?_
  refine g_iconst (v := nI 3) E d_La_law_755 (by decide) ?_
  refine g_iadd E d_La_law_756 ?_
  refine g_topi (nI_add _ _) ?_
  refine g_scr E hX hbl (by omega) (by omega) d_La_law_757 ?_
  refine g_topi hx3 ?_
  refine g_aload_n E d_La_law_758 rfl 4 rfl ?_
  refine g_iload E d_La_law_759 0 rfl ?_
  refine g_iconst (v := nI 4) E d_La_law_761 (by decide) ?_
  refine g_iadd E d_La_law_762 ?_
  refine g_topi (nI_add _ _) ?_
  refine g_scr E hX hbl (by omega) (by omega) d_La_law_763 ?_
  refine g_topi hx4 ?_
  refine g_aload_n E d_La_law_764 rfl 1 rfl ?_
  refine gbLi (w := wG V oa ad r1 r2 r3 am ou nY ix bu np st sr sx tk rn sh sn yw nw yo ce wo po ne cs sv mk sp rs bg dp th_ nY_ ix_ bu_ np_ st_ sr_ go_ ca_ nw_ yo_ ce_ wo_ po_ ne_ sv_ cl_ mk_ bg_ dp_ sh_ nx_ spn_) (As := [.ref (ad 0), .int (nI y), .int k, .int v, .int (nI q), .ref oa]) (rest := []) E hXJ (fbi (post := wM V am th_ nY_ ix_ bu_ np_ st_ sr_ go_ ca_ nw_ yo_ ce_ wo_ po_ ne_ sv_ cl_ mk_ bg_ dp_ sh_ nx_ spn_) (B_CY_work_2s l hfl (oa := oa) (ou := ou) y k v q hq hnp hy hY hb)) kc_La_work kl_La_119 ks_La_work kn_La kd_La_work rfl rfl ⟨Nat.le_of_ble_eq_true rfl, Nat.le_of_ble_eq_true rfl⟩ rfl rfl (Nat.le_of_ble_eq_true rfl) ⟨by show _ ≤ 601024; omega, by show _ ≤ 7293000; omega⟩ d_La_law_765 ?_
  refine g_istore (lv' := [(5, .int (nI 1)), (4, .int (nI ti)), (3, .ref oa), (2, .ref (am 0)), (1, .ref (ad 0)), (0, .ref sb)]) E d_La_law_768 (by decide) rfl ?_
  refine g_aload_n E d_La_law_770 rfl 3 rfl ?_
  refine g_aload_n E d_La_law_771 rfl 5 rfl ?_
  refine g_iload E d_La_law_772 1 rfl ?_
  refine g_iconst (v := nI 1) E d_La_law_774 (by decide) ?_
  refine g_iadd E d_La_law_775 ?_
  refine g_topi (nI_add _ _) ?_
  refine g_scr E hX hbl (by omega) (by omega) d_La_law_776 ?_
  refine g_topi hx1 ?_
  refine g_aload_n E d_La_law_777 rfl 5 rfl ?_
  refine g_iload E d_La_law_778 1 rfl ?_
  refine g_iconst (v := nI 2) E d_La_law_780 (by decide) ?_
  refine g_iadd E d_La_law_781 ?_
  refine g_topi (nI_add _ _) ?_
  refine g_scr E hX hbl (by omega) (by omega) d_La_law_782 ?_
  refine g_topi hx2 ?_
  refine g_aload_n E d_La_law_783 rfl 5 rfl ?_
  refine g_iload E d_La_law_784 1 rfl ?_
  refine g_iconst (v := nI 3) E d_La_law_786 (by decide) ?_
  refine g_iadd E d_La_law_787 ?_
  refine g_topi (nI_add _ _) ?_
  refine g_scr E hX hbl (by omega) (by omega) d_La_law_788 ?_
  refine g_topi hx3 ?_
  refine g_aload_n E d_La_law_789 rfl 5 rfl ?_
  refine g_iload E d_La_law_790 1 rfl ?_
  refine g_iconst (v := nI 4) E d_La_law_792 (by decide) ?_
  refine g_iadd E d_La_law_793 ?_
  refine g_topi (nI_add _ _) ?_
  refine g_scr E hX hbl (by omega) (by omega) d_La_law_794 ?_
  refine g_topi hx4 ?_
  refine gwVi (w := wG V oa ad r1 r2 r3 am ou nY ix bu np st sr sx tk rn sh sn yw nw yo ce wo po ne cs sv mk sp rs bg dp th_ nY_ ix_ bu_ np_ st_ sr_ go_ ca_ nw_ yo_ ce_ wo_ po_ ne_ sv_ cl_ mk_ bg_ dp_ sh_ nx_ spn_) (w' := wG V oa ad r1 r2 r3 am ou nY ix bu np st sr sx tk rn sh sn yw nw yo ce wo po ne cs sv mk sp rs bg dp 1 nY_ ix_ bu_ np_ st_ sr_ go_ ca_ nw_ yo_ ce_ wo_ po_ ne_ sv_ cl_ mk_ bg_ dp_ sh_ nx_ spn_) (mc := 0) (ms := 0) (As := [.int (nI y), .int k, .int v, .int (nI q)]) (rest := []) E (fun _ h => h) 57 wG_am rfl (fi (pre := (oa, aX V ou) :: wC V ad r1 r2 r3 nY ix bu np st sr sx tk rn sh sn yw nw yo ce wo po ne cs sv mk sp rs bg dp) (Y_Mo_work_2s l y k v q hq_ hy_ hY_ hnp_ hnw_ hb_)) (cs_La_121 E rfl rfl ⟨Nat.le_of_ble_eq_true rfl, Nat.le_of_ble_eq_true rfl⟩) rfl rfl (Nat.le_of_ble_eq_true rfl) ⟨by show _ ≤ 601024; omega, by show _ ≤ 7293000; omega⟩ d_La_law_795 ?_
  refine g_istore (lv' := [(6, .int (nI 0)), (5, .int (nI 1)), (4, .int (nI ti)), (3, .ref oa), (2, .ref (am 0)), (1, .ref (ad 0)), (0, .ref sb)]) E d_La_law_798 (by decide) rfl ?_
  refine g_aload_n E d_La_law_800 rfl 4 rfl ?_
  refine gpVi (As := []) (rest := []) E gO_w 57 wG_am rfl (fpi0 (pre := (oa, aX V ou) :: wC V ad r1 r2 r3 nY ix bu np st sr sx tk rn sh sn yw nw yo ce wo po ne cs sv mk sp rs bg dp) (C_Mo_thrown l)) (cs_La_92 E rfl rfl ⟨Nat.le_of_ble_eq_true rfl, Nat.le_of_ble_eq_true rfl⟩) rfl rfl (Nat.le_of_ble_eq_true rfl) ⟨by show _ ≤ 601024; omega, by show _ ≤ 7293000; omega⟩ d_La_law_801 ?_
  refine g_iload E d_La_law_804 1 rfl ?_
  refine g_ncmp_eq E 811 d_La_law_806 (by decide) (by omega) (by omega) (fun h1 => ?_) (fun h1 => ?_)
  · refine g_iload E d_La_law_811 1 rfl ?_
    refine g_nif_ne E 828 d_La_law_813 (by decide) (by decide) (fun _ => ?_) (fun h2 => absurd h2 (by decide))
    refine g_goto E 1527 d_La_law_828 (by decide) ?_
    refine g_lv [2, 3, 4, 5, 6] rfl ?_
    exact kk
  · exact absurd rfl h1

set_option maxHeartbeats 4000000 in
set_option maxRecDepth 100000 in
theorem K_work_3s_x {p : Program} {l : Launch} {e : Env} {s : State} {m : MethodId} {below : List Frame} {meth : Method} {c : Code} {V : gV} {sb LL ti cells slots : Nat} {xs : Nat → Int32} {oa : Nat} {am : Nat → Nat} {ou : Int64} {ad r1 r2 r3 : Nat → Nat} {nY : Nat} {ix bu : Nat → Nat} {np : Nat} {st sr : Nat → Nat} {sx tk : Nat → Nat → Nat} {rn sh sn : Nat → Nat} {yw nw : Nat} {yo ce wo : Nat → Nat} {po ne : Nat → Option Nat} {cs : Nat → Nat} {sv : Nat → Nat → Nat} {mk : Nat} {sp rs : Nat → Int} {bg dp : Nat} {th_ nY_ : Nat} {ix_ bu_ : Nat → Nat} {np_ : Nat} {st_ sr_ go_ ca_ : Nat → Nat} {nw_ : Nat} {yo_ ce_ wo_ : Nat → Nat} {po_ ne_ : Nat → Option Nat} {sv_ : Nat → Nat} {cl_ : Nat → Bool} {mk_ bg_ dp_ : Nat} {sh_ nx_ : Nat → Nat} {spn_ : Int} (E : gE p s m #[Value.ref sb] c code 8 R_La V) (hX : va_X sb LL xs s s.heap) (hbl : sb < s.heap.size) (hXJ : XJ s) (hfl : l.flags = flags0) (hL : LL ≤ 2561) (hiL : ti + 5 ≤ LL) (hcl : cells + 1 ≤ 601024) (hsl : slots + 6 ≤ 7293000) (y k v : Nat) (q : Nat) (hq : q < np) (hnp : np ≤ 12) (hy : y < nY) (hY : nY ≤ 12) (h1 : 1 ≤ k) (h2 : k ≤ 1000000) (h3 : v ≤ 1000000) (hnw : nw = 10) (hq_ : q < np_) (hy_ : y < nY_) (hY_ : nY_ ≤ 12) (hnp_ : np_ ≤ 12) (h1_ : 1 ≤ k) (h2_ : k ≤ 1000000) (h3_ : v ≤ 1000000) (hnw_ : nw_ = 10) (hx1 : xs (ti + 1) = nI y) (hx2 : xs (ti + 2) = nI k) (hx3 : xs (ti + 3) = nI v) (hx4 : xs (ti + 4) = nI q)  (kk : gg p l e room_1 s m #[Value.ref sb] below meth c 8 (lw_Z below #[Value.ref sb] s) (cells + 1) (slots + 6) (gW V (fun q => s.heap.size ≤ q) s.heap (wG V oa ad r1 r2 r3 am ou nY ix bu np st sr sx tk rn sh sn yw nw yo ce wo po ne cs sv mk sp rs bg dp 2 nY_ ix_ bu_ np_ st_ sr_ go_ ca_ nw_ yo_ ce_ wo_ po_ ne_ sv_ cl_ mk_ bg_ dp_ sh_ nx_ spn_)) [(4, .int (nI ti)), (3, .ref oa), (2, .ref (am 0)), (1, .ref (ad 0)), (0, .ref sb)] 1527 []) : gg p l e room_1 s m #[Value.ref sb] below meth c 8 (lw_Z below #[Value.ref sb] s) cells slots (gW V (fun q => s.heap.size ≤ q) s.heap (wG V oa ad r1 r2 r3 am ou nY ix bu np st sr sx tk rn sh sn yw nw yo ce wo po ne cs sv mk sp rs bg dp th_ nY_ ix_ bu_ np_ st_ sr_ go_ ca_ nw_ yo_ ce_ wo_ po_ ne_ sv_ cl_ mk_ bg_ dp_ sh_ nx_ spn_)) [(4, .int (nI ti)), (3, .ref oa), (2, .ref (am 0)), (1, .ref (ad 0)), (0, .ref sb)] 739 [] := by
  refine g_aload_n E d_La_law_739 rfl 3 rfl ?_
  refine g_aload_n E d_La_law_740 rfl 4 rfl ?_
  refine g_iload E d_La_law_741 0 rfl ?_
  refine g_iconst (v := nI 1) E d_La_law_743 (by decide) ?_
  refine g_iadd E d_La_law_744 ?_
  refine g_topi (nI_add _ _) ?_
  refine g_scr E hX hbl (by omega) (by omega) d_La_law_745 ?_
  refine g_topi hx1 ?_
  refine g_aload_n E d_La_law_746 rfl 4 rfl ?_
  refine g_iload E d_La_law_747 0 rfl ?_
  refine g_iconst (v := nI 2) E d_La_law_749 (by decide) ?_
  refine g_iadd E d_La_law_750 ?_
  refine g_topi (nI_add _ _) ?_
  refine g_scr E hX hbl (by omega) (by omega) d_La_law_751 ?_
  refine g_topi hx2 ?_
  refine g_aload_n E d_La_law_752 rfl 4 rfl ?_
  refine g_iload E d_La_law_753 0 rfl ?_
  refine g_iconst (v := nI 3) E d_La_law_755 (by decide) ?_
  refine g_iadd E d_La_law_756 ?_
  refine g_topi (nI_add _ _) ?_
  refine g_scr E hX hbl (by omega) (by omega) d_La_law_757 ?_
  refine g_topi hx3 ?_
  refine g_aload_n E d_La_law_758 rfl 4 rfl ?_
  refine g_iload E d_La_law_759 0 rfl ?_
  refine g_iconst (v := nI 4) E d_La_law_761 (by decide) ?_
  refine g_iadd E d_La_law_762 ?_
  refine g_topi (nI_add _ _) ?_
  refine g_scr E hX hbl (by omega) (by omega) d_La_law_763 ?_
  refine g_topi hx4 ?_
  refine g_aload_n E d_La_law_764 rfl 1 rfl ?_
  refine gbLi (w := wG V oa ad r1 r2 r3 am ou nY ix bu np st sr sx tk rn sh sn yw nw yo ce wo po ne cs sv mk sp rs bg dp th_ nY_ ix_ bu_ np_ st_ sr_ go_ ca_ nw_ yo_ ce_ wo_ po_ ne_ sv_ cl_ mk_ bg_ dp_ sh_ nx_ spn_) (As := [.ref (ad 0), .int (nI y), .int (nI k), .int (nI v), .int (nI q), .ref oa]) (rest := []) E hXJ (fbi (post := wM V am th_ nY_ ix_ bu_ np_ st_ sr_ go_ ca_ nw_ yo_ ce_ wo_ po_ ne_ sv_ cl_ mk_ bg_ dp_ sh_ nx_ spn_) (B_CY_work_3s l hfl (oa := oa) (ou := ou) y k v q hq hnp hy hY h1 h2 h3 hnw)) kc_La_work kl_La_119 ks_La_work kn_La kd_La_work rfl rfl ⟨Nat.le_of_ble_eq_true rfl, Nat.le_of_ble_eq_true rfl⟩ rfl rfl (Nat.le_of_ble_eq_true rfl) ⟨by show _ ≤ 601024; omega, by show _ ≤ 7293000; omega⟩ d_La_law_765 ?_
  refine g_istore (lv' := [(5, .int (nI 2)), (4, .int (nI ti)), (3, .ref oa), (2, .ref (am 0)), (1, .ref (ad 0)), (0, .ref sb)]) E d_La_law_768 (by decide) rfl ?_
  refine g_aload_n E d_La_law_770 rfl 3 rfl ?_
  refine g_aload_n E d_La_law_771 rfl 5 rfl ?_
  refine g_iload E d_La_law_772 1 rfl ?_
  refine g_iconst (v := nI 1) E d_La_law_774 (by decide) ?_
  refine g_iadd E d_La_law_775 ?_
  refine g_topi (nI_add _ _) ?_
  refine g_scr E hX hbl (by omega) (by omega) d_La_law_776 ?_
  refine g_topi hx1 ?_
  refine g_aload_n E d_La_law_777 rfl 5 rfl ?_
  refine g_iload E d_La_law_778 1 rfl ?_
  refine g_iconst (v := nI 2) E d_La_law_780 (by decide) ?_
  refine g_iadd E d_La_law_781 ?_
  refine g_topi (nI_add _ _) ?_
  refine g_scr E hX hbl (by omega) (by omega) d_La_law_782 ?_
  refine g_topi hx2 ?_
  refine g_aload_n E d_La_law_783 rfl 5 rfl ?_
  refine g_iload E d_La_law_784 1 rfl ?_
  refine g_iconst (v := nI 3) E d_La_law_786 (by decide) ?_
  refine g_iadd E d_La_law_787 ?_
  refine g_topi (nI_add _ _) ?_
  refine g_scr E hX hbl (by omega) (by omega) d_La_law_788 ?_
  refine g_topi hx3 ?_
  refine g_aload_n E d_La_law_789 rfl 5 rfl ?_
  refine g_iload E d_La_law_790 1 rfl ?_
  refine g_iconst (v := nI 4) E d_La_law_792 (by decide) ?_
  refine g_iadd E d_La_law_793 ?_
  refine g_topi (nI_add _ _) ?_
  refine g_scr E hX hbl (by omega) (by omega) d_La_law_794 ?_
  refine g_topi hx4 ?_
  refine gwVi (w := wG V oa ad r1 r2 r3 am ou nY ix bu np st sr sx tk rn sh sn yw nw yo ce wo po ne cs sv mk sp rs bg dp th_ nY_ ix_ bu_ np_ st_ sr_ go_ ca_ nw_ yo_ ce_ wo_ po_ ne_ sv_ cl_ mk_ bg_ dp_ sh_ nx_ spn_) (w' := wG V oa ad r1 r2 r3 am ou nY ix bu np st sr sx tk rn sh sn yw nw yo ce wo po ne cs sv mk sp rs bg dp 2 nY_ ix_ bu_ np_ st_ sr_ go_ ca_ nw_ yo_ ce_ wo_ po_ ne_ sv_ cl_ mk_ bg_ dp_ sh_ nx_ spn_) (mc := 0) (ms := 0) (As := [.int (nI y), .int (nI k), .int (nI v), .int (nI q)]) (rest := []) E (fun _ h => h) 57 wG_am rfl (fi (pre := (oa, aX V ou) :: wC V ad r1 r2 r3 nY ix bu np st sr sx tk rn sh sn yw nw yo ce wo po ne cs sv mk sp rs bg dp) (Y_Mo_work_3s l y k v q hq_ hy_ hY_ hnp_ h1_ h2_ h3_ hnw_)) (cs_La_121 E rfl rfl ⟨Nat.le_of_ble_eq_true rfl, Nat.le_of_ble_eq_true rfl⟩) rfl rfl (Nat.le_of_ble_eq_true rfl) ⟨by show _ ≤ 601024; omega, by show _ ≤ 7293000; omega⟩ d_La_law_795 ?_
  refine g_istore (lv' := [(6, .int (nI 0)), (5, .int (nI 2)), (4, .int (nI ti)), (3, .ref oa), (2, .ref (am 0)), (1, .ref (ad 0)), (0, .ref sb)]) E d_La_law_798 (by decide) rfl ?_
  refine g_aload_n E d_La_law_800 rfl 4 rfl ?_
  refine gpVi (As := []) (rest := []) E gO_w 57 wG_am rfl (fpi0 (pre := (oa, aX V ou) :: wC V ad r1 r2 r3 nY ix bu np st sr sx tk rn sh sn yw nw yo ce wo po ne cs sv mk sp rs bg dp) (C_Mo_thrown l)) (cs_La_92 E rfl rfl ⟨Nat.le_of_ble_eq_true rfl, Nat.le_of_ble_eq_true rfl⟩) rfl rfl (Nat.le_of_ble_eq_true rfl) ⟨by show _ ≤ 601024; omega, by show _ ≤ 7293000; omega⟩ d_La_law_801 ?_
  refine g_iload E d_La_law_804 1 rfl ?_
  refine g_ncmp_eq E 811 d_La_law_806 (by decide) (by omega) (by omega) (fun h1 => ?_) (fun h1 => ?_)
  · refine g_iload E d_La_law_811 1 rfl ?_
    refine g_nif_ne E 828 d_La_law_813 (by decide) (by decide) (fun _ => ?_) (fun h2 => absurd h2 (by decide))
    refine g_goto E 1527 d_La_law_828 (by decide) ?_
    refine g_lv [2, 3, 4, 5, 6] rfl ?_
    exact kk
  · exact absurd rfl h1

set_option maxHeartbeats 4000000 in
set_option maxRecDepth 100000 in
theorem K_join_1_x {p : Program} {l : Launch} {e : Env} {s : State} {m : MethodId} {below : List Frame} {meth : Method} {c : Code} {V : gV} {sb LL ti cells slots : Nat} {xs : Nat → Int32} {oa : Nat} {am : Nat → Nat} {ou : Int64} {ad r1 r2 r3 : Nat → Nat} {nY : Nat} {ix bu : Nat → Nat} {np : Nat} {st sr : Nat → Nat} {sx tk : Nat → Nat → Nat} {rn sh sn : Nat → Nat} {yw nw : Nat} {yo ce wo : Nat → Nat} {po ne : Nat → Option Nat} {cs : Nat → Nat} {sv : Nat → Nat → Nat} {mk : Nat} {sp rs : Nat → Int} {bg dp : Nat} {th_ nY_ : Nat} {ix_ bu_ : Nat → Nat} {np_ : Nat} {st_ sr_ go_ ca_ : Nat → Nat} {nw_ : Nat} {yo_ ce_ wo_ : Nat → Nat} {po_ ne_ : Nat → Option Nat} {sv_ : Nat → Nat} {cl_ : Nat → Bool} {mk_ bg_ dp_ : Nat} {sh_ nx_ : Nat → Nat} {spn_ : Int} (E : gE p s m #[Value.ref sb] c code 8 R_La V) (hX : va_X sb LL xs s s.heap) (hbl : sb < s.heap.size) (hXJ : XJ s) (hfl : l.flags = flags0) (hL : LL ≤ 2561) (hiL : ti + 5 ≤ LL) (hcl : cells + 1 ≤ 601024) (hsl : slots + 6 ≤ 7293000) (a b v : Int32) (hb : (inR a (nI nw) && inR b (nI nw) && !decide (a = b)) = false) (hnw_ : nw_ ≤ 10) (hb_ : twoW nw_ a b = false) (hx1 : xs (ti + 1) = a) (hx2 : xs (ti + 2) = b) (hx3 : xs (ti + 3) = v)  (kk : gg p l e room_1 s m #[Value.ref sb] below meth c 8 (lw_Z below #[Value.ref sb] s) (cells + 1) (slots + 6) (gW V (fun q => s.heap.size ≤ q) s.heap (wG V oa ad r1 r2 r3 am ou nY ix bu np st sr sx tk rn sh sn yw nw yo ce wo po ne cs sv mk sp rs bg dp 1 nY_ ix_ bu_ np_ st_ sr_ go_ ca_ nw_ yo_ ce_ wo_ po_ ne_ sv_ cl_ mk_ bg_ dp_ sh_ nx_ spn_)) [(4, .int (nI ti)), (3, .ref oa), (2, .ref (am 0)), (1, .ref (ad 0)), (0, .ref sb)] 1527 []) : gg p l e room_1 s m #[Value.ref sb] below meth c 8 (lw_Z below #[Value.ref sb] s) cells slots (gW V (fun q => s.heap.size ≤ q) s.heap (wG V oa ad r1 r2 r3 am ou nY ix bu np st sr sx tk rn sh sn yw nw yo ce wo po ne cs sv mk sp rs bg dp th_ nY_ ix_ bu_ np_ st_ sr_ go_ ca_ nw_ yo_ ce_ wo_ po_ ne_ sv_ cl_ mk_ bg_ dp_ sh_ nx_ spn_)) [(4, .int (nI ti)), (3, .ref oa), (2, .ref (am 0)), (1, .ref (ad 0)), (0, .ref sb)] 831 [] := by
  refine g_aload_n E d_La_law_831 rfl 3 rfl ?_
  refine g_aload_n E d_La_law_832 rfl 4 rfl ?_
  refine g_iload E d_La_law_833 0 rfl ?_
  refine g_iconst (v := nI 1) E d_La_law_835 (by decide) ?_
  refine g_iadd E d_La_law_836 ?_
  refine g_topi (nI_add _ _) ?_
  refine g_scr E hX hbl (by omega) (by omega) d_La_law_837 ?_
  refine g_topi hx1 ?_
  refine g_aload_n E d_La_law_838 rfl 4 rfl ?_
  refine g_iload E d_La_law_839 0 rfl ?_
  refine g_iconst (v := nI 2) E d_La_law_841 (by decide) ?_
  refine g_iadd E d_La_law_842 ?_
  refine g_topi (nI_add _ _) ?_
  refine g_scr E hX hbl (by omega) (by omega) d_La_law_843 ?_
  refine g_topi hx2 ?_
  refine g_aload_n E d_La_law_844 rfl 4 rfl ?_
  refine g_iload E d_La_law_845 0 rfl ?_
  refine g_iconst (v := nI 3) E d_La_law_847 (by decide) ?_
  refine g_iadd E d_La_law_848 ?_
  refine g_topi (nI_add _ _) ?_
  refine g_scr E hX hbl (by omega) (by omega) d_La_law_849 ?_
  refine g_topi hx3 ?_
  refine g_aload_n E d_La_law_850 rfl 1 rfl ?_
  refine gbLi (w := wG V oa ad r1 r2 r3 am ou nY ix bu np st sr sx tk rn sh sn yw nw yo ce wo po ne cs sv mk sp rs bg dp th_ nY_ ix_ bu_ np_ st_ sr_ go_ ca_ nw_ yo_ ce_ wo_ po_ ne_ sv_ cl_ mk_ bg_ dp_ sh_ nx_ spn_) (As := [.ref (ad 0), .int a, .int b, .int v, .ref oa]) (rest := []) E hXJ (fbi (post := wM V am th_ nY_ ix_ bu_ np_ st_ sr_ go_ ca_ nw_ yo_ ce_ wo_ po_ ne_ sv_ cl_ mk_ bg_ dp_ sh_ nx_ spn_) (B_CY_join_1 l hfl (oa := oa) (ou := ou) a b v hb)) kc_La_join kl_La_122 ks_La_join kn_La kd_La_join rfl rfl ⟨Nat.le_of_ble_eq_true rfl, Nat.le_of_ble_eq_true rfl⟩ rfl rfl (Nat.le_of_ble_eq_true rfl) ⟨by show _ ≤ 601024; omega, by show _ ≤ 7293000; omega⟩ d_La_law_851 ?_
  refine g_istore (lv' := [(5, .int (nI 1)), (4, .int (nI ti)), (3, .ref oa), (2, .ref (am 0)), (1, .ref (ad 0)), (0, .ref sb)]) E d_La_law_854 (by decide) rfl ?_
  refine g_aload_n E d_La_law_856 rfl 3 rfl ?_
  refine g_aload_n E d_La_law_857 rfl 5 rfl ?_
  refine g_iload E d_La_law_858 1 rfl ?_
  refine g_iconst (v := nI 1) E d_La_law_860 (by decide) ?_
  refine g_iadd E d_La_law_861 ?_
  refine g_topi (nI_add _ _) ?_
  refine g_scr E hX hbl (by omega) (by omega) d_La_law_862 ?_
  refine g_topi hx1 ?_
  refine g_aload_n E d_La_law_863 rfl 5 rfl ?_
  refine g_iload E d_La_law_864 1 rfl ?_
  refine g_iconst (v := nI 2) E d_La_law_866 (by decide) ?_
  refine g_iadd E d_La_law_867 ?_
  refine g_topi (nI_add _ _) ?_
  refine g_scr E hX hbl (by omega) (by omega) d_La_law_868 ?_
  refine g_topi hx2 ?_
  refine g_aload_n E d_La_law_869 rfl 5 rfl ?_
  refine g_iload E d_La_law_870 1 rfl ?_
  refine g_iconst (v := nI 3) E d_La_law_872 (by decide) ?_
  refine g_iadd E d_La_law_873 ?_
  refine g_topi (nI_add _ _) ?_
  refine g_scr E hX hbl (by omega) (by omega) d_La_law_874 ?_
  refine g_topi hx3 ?_
  refine gwVi (w := wG V oa ad r1 r2 r3 am ou nY ix bu np st sr sx tk rn sh sn yw nw yo ce wo po ne cs sv mk sp rs bg dp th_ nY_ ix_ bu_ np_ st_ sr_ go_ ca_ nw_ yo_ ce_ wo_ po_ ne_ sv_ cl_ mk_ bg_ dp_ sh_ nx_ spn_) (w' := wG V oa ad r1 r2 r3 am ou nY ix bu np st sr sx tk rn sh sn yw nw yo ce wo po ne cs sv mk sp rs bg dp 1 nY_ ix_ bu_ np_ st_ sr_ go_ ca_ nw_ yo_ ce_ wo_ po_ ne_ sv_ cl_ mk_ bg_ dp_ sh_ nx_ spn_) (mc := 0) (ms := 0) (As := [.int a, .int b, .int v]) (rest := []) E (fun _ h => h) 57 wG_am rfl (fi (pre := (oa, aX V ou) :: wC V ad r1 r2 r3 nY ix bu np st sr sx tk rn sh sn yw nw yo ce wo po ne cs sv mk sp rs bg dp) (Y_Mo_join_1 l a b v hnw_ hb_)) (cs_La_124 E rfl rfl ⟨Nat.le_of_ble_eq_true rfl, Nat.le_of_ble_eq_true rfl⟩) rfl rfl (Nat.le_of_ble_eq_true rfl) ⟨by show _ ≤ 601024; omega, by show _ ≤ 7293000; omega⟩ d_La_law_875 ?_
  refine g_istore (lv' := [(6, .int (nI 0)), (5, .int (nI 1)), (4, .int (nI ti)), (3, .ref oa), (2, .ref (am 0)), (1, .ref (ad 0)), (0, .ref sb)]) E d_La_law_878 (by decide) rfl ?_
  refine g_aload_n E d_La_law_880 rfl 4 rfl ?_
  refine gpVi (As := []) (rest := []) E gO_w 57 wG_am rfl (fpi0 (pre := (oa, aX V ou) :: wC V ad r1 r2 r3 nY ix bu np st sr sx tk rn sh sn yw nw yo ce wo po ne cs sv mk sp rs bg dp) (C_Mo_thrown l)) (cs_La_92 E rfl rfl ⟨Nat.le_of_ble_eq_true rfl, Nat.le_of_ble_eq_true rfl⟩) rfl rfl (Nat.le_of_ble_eq_true rfl) ⟨by show _ ≤ 601024; omega, by show _ ≤ 7293000; omega⟩ d_La_law_881 ?_
  refine g_iload E d_La_law_884 1 rfl ?_
  refine g_ncmp_eq E 891 d_La_law_886 (by decide) (by omega) (by omega) (fun h1 => ?_) (fun h1 => ?_)
  · refine g_iload E d_La_law_891 1 rfl ?_
    refine g_nif_ne E 908 d_La_law_893 (by decide) (by decide) (fun _ => ?_) (fun h2 => absurd h2 (by decide))
    refine g_goto E 1527 d_La_law_908 (by decide) ?_
    refine g_lv [2, 3, 4, 5, 6] rfl ?_
    exact kk
  · exact absurd rfl h1

set_option maxHeartbeats 4000000 in
set_option maxRecDepth 100000 in
theorem K_join_2_x {p : Program} {l : Launch} {e : Env} {s : State} {m : MethodId} {below : List Frame} {meth : Method} {c : Code} {V : gV} {sb LL ti cells slots : Nat} {xs : Nat → Int32} {oa : Nat} {am : Nat → Nat} {ou : Int64} {ad r1 r2 r3 : Nat → Nat} {nY : Nat} {ix bu : Nat → Nat} {np : Nat} {st sr : Nat → Nat} {sx tk : Nat → Nat → Nat} {rn sh sn : Nat → Nat} {yw nw : Nat} {yo ce wo : Nat → Nat} {po ne : Nat → Option Nat} {cs : Nat → Nat} {sv : Nat → Nat → Nat} {mk : Nat} {sp rs : Nat → Int} {bg dp : Nat} {th_ nY_ : Nat} {ix_ bu_ : Nat → Nat} {np_ : Nat} {st_ sr_ go_ ca_ : Nat → Nat} {nw_ : Nat} {yo_ ce_ wo_ : Nat → Nat} {po_ ne_ : Nat → Option Nat} {sv_ : Nat → Nat} {cl_ : Nat → Bool} {mk_ bg_ dp_ : Nat} {sh_ nx_ : Nat → Nat} {spn_ : Int} (E : gE p s m #[Value.ref sb] c code 8 R_La V) (hX : va_X sb LL xs s s.heap) (hbl : sb < s.heap.size) (hXJ : XJ s) (hfl : l.flags = flags0) (hL : LL ≤ 2561) (hiL : ti + 5 ≤ LL) (hcl : cells + 1 ≤ 601024) (hsl : slots + 6 ≤ 7293000) (a b : Nat) (v : Int32) (ha : a < nw) (hbw : b < nw) (hab : a ≠ b) (hnw : nw ≤ 10) (hb : inB v (nI 0) (nI 1000000) = false) (ha_ : a < nw_) (hbw_ : b < nw_) (hab_ : a ≠ b) (hnw_ : nw_ ≤ 10) (hb_ : inB v (nI 0) (nI 1000000) = false) (hx1 : xs (ti + 1) = nI a) (hx2 : xs (ti + 2) = nI b) (hx3 : xs (ti + 3) = v)  (kk : gg p l e room_1 s m #[Value.ref sb] below meth c 8 (lw_Z below #[Value.ref sb] s) (cells + 1) (slots + 6) (gW V (fun q => s.heap.size ≤ q) s.heap (wG V oa ad r1 r2 r3 am ou nY ix bu np st sr sx tk rn sh sn yw nw yo ce wo po ne cs sv mk sp rs bg dp 1 nY_ ix_ bu_ np_ st_ sr_ go_ ca_ nw_ yo_ ce_ wo_ po_ ne_ sv_ cl_ mk_ bg_ dp_ sh_ nx_ spn_)) [(4, .int (nI ti)), (3, .ref oa), (2, .ref (am 0)), (1, .ref (ad 0)), (0, .ref sb)] 1527 []) : gg p l e room_1 s m #[Value.ref sb] below meth c 8 (lw_Z below #[Value.ref sb] s) cells slots (gW V (fun q => s.heap.size ≤ q) s.heap (wG V oa ad r1 r2 r3 am ou nY ix bu np st sr sx tk rn sh sn yw nw yo ce wo po ne cs sv mk sp rs bg dp th_ nY_ ix_ bu_ np_ st_ sr_ go_ ca_ nw_ yo_ ce_ wo_ po_ ne_ sv_ cl_ mk_ bg_ dp_ sh_ nx_ spn_)) [(4, .int (nI ti)), (3, .ref oa), (2, .ref (am 0)), (1, .ref (ad 0)), (0, .ref sb)] 831 [] := by
  refine g_aload_n E d_La_law_831 rfl 3 rfl ?_
  refine g_aload_n E d_La_law_832 rfl 4 rfl ?_
  refine g_iload E d_La_law_833 0 rfl ?_
  refine g_iconst (v := nI 1) E d_La_law_835 (by decide) ?_
  refine g_iadd E d_La_law_836 ?_
  refine g_topi (nI_add _ _) ?_
  refine g_scr E hX hbl (by omega) (by omega) d_La_law_837 ?_
  refine g_topi hx1 ?_
  refine g_aload_n E d_La_law_838 rfl 4 rfl ?_
  refine g_iload E d_La_law_839 0 rfl ?_
  refine g_iconst (v := nI 2) E d_La_law_841 (by decide) ?_
  refine g_iadd E d_La_law_842 ?_
  refine g_topi (nI_add _ _) ?_
  refine g_scr E hX hbl (by omega) (by omega) d_La_law_843 ?_
  refine g_topi hx2 ?_
  refine g_aload_n E d_La_law_844 rfl 4 rfl ?_
  refine g_iload E d_La_law_845 0 rfl ?_
  refine g_iconst (v := nI 3) E d_La_law_847 (by decide) ?_
  refine g_iadd E d_La_law_848 ?_
  refine g_topi (nI_add _ _) ?_
  refine g_scr E hX hbl (by omega) (by omega) d_La_law_849 ?_
  refine g_topi hx3 ?_
  refine g_aload_n E d_La_law_850 rfl 1 rfl ?_
  refine gbLi (w := wG V oa ad r1 r2 r3 am ou nY ix bu np st sr sx tk rn sh sn yw nw yo ce wo po ne cs sv mk sp rs bg dp th_ nY_ ix_ bu_ np_ st_ sr_ go_ ca_ nw_ yo_ ce_ wo_ po_ ne_ sv_ cl_ mk_ bg_ dp_ sh_ nx_ spn_) (As := [.ref (ad 0), .int (nI a), .int (nI b), .int v, .ref oa]) (rest := []) E hXJ (fbi (post := wM V am th_ nY_ ix_ bu_ np_ st_ sr_ go_ ca_ nw_ yo_ ce_ wo_ po_ ne_ sv_ cl_ mk_ bg_ dp_ sh_ nx_ spn_) (B_CY_join_2 l hfl (oa := oa) (ou := ou) a b v ha hbw hab hnw hb)) kc_La_join kl_La_122 ks_La_join kn_La kd_La_join rfl rfl ⟨Nat.le_of_ble_eq_true rfl, Nat.le_of_ble_eq_true rfl⟩ rfl rfl (Nat.le_of_ble_eq_true rfl) ⟨by show _ ≤ 601024; omega, by show _ ≤ 7293000; omega⟩ d_La_law_851 ?_
  refine g_istore (lv' := [(5, .int (nI 1)), (4, .int (nI ti)), (3, .ref oa), (2, .ref (am 0)), (1, .ref (ad 0)), (0, .ref sb)]) E d_La_law_854 (by decide) rfl ?_
  refine g_aload_n E d_La_law_856 rfl 3 rfl ?_
  refine g_aload_n E d_La_law_857 rfl 5 rfl ?_
  refine g_iload E d_La_law_858 1 rfl ?_
  refine g_iconst (v := nI 1) E d_La_law_860 (by decide) ?_
  refine g_iadd E d_La_law_861 ?_
  refine g_topi (nI_add _ _) ?_
  refine g_scr E hX hbl (by omega) (by omega) d_La_law_862 ?_
  refine g_topi hx1 ?_
  refine g_aload_n E d_La_law_863 rfl 5 rfl ?_
  refine g_iload E d_La_law_864 1 rfl ?_
  refine g_iconst (v := nI 2) E d_La_law_866 (by decide) ?_
  refine g_iadd E d_La_law_867 ?_
  refine g_topi (nI_add _ _) ?_
  refine g_scr E hX hbl (by omega) (by omega) d_La_law_868 ?_
  refine g_topi hx2 ?_
  refine g_aload_n E d_La_law_869 rfl 5 rfl ?_
  refine g_iload E d_La_law_870 1 rfl ?_
  refine g_iconst (v := nI 3) E d_La_law_872 (by decide) ?_
  refine g_iadd E d_La_law_873 ?_
  refine g_topi (nI_add _ _) ?_
  refine g_scr E hX hbl (by omega) (by omega) d_La_law_874 ?_
  refine g_topi hx3 ?_
  refine gwVi (w := wG V oa ad r1 r2 r3 am ou nY ix bu np st sr sx tk rn sh sn yw nw yo ce wo po ne cs sv mk sp rs bg dp th_ nY_ ix_ bu_ np_ st_ sr_ go_ ca_ nw_ yo_ ce_ wo_ po_ ne_ sv_ cl_ mk_ bg_ dp_ sh_ nx_ spn_) (w' := wG V oa ad r1 r2 r3 am ou nY ix bu np st sr sx tk rn sh sn yw nw yo ce wo po ne cs sv mk sp rs bg dp 1 nY_ ix_ bu_ np_ st_ sr_ go_ ca_ nw_ yo_ ce_ wo_ po_ ne_ sv_ cl_ mk_ bg_ dp_ sh_ nx_ spn_) (mc := 0) (ms := 0) (As := [.int (nI a), .int (nI b), .int v]) (rest := []) E (fun _ h => h) 57 wG_am rfl (fi (pre := (oa, aX V ou) :: wC V ad r1 r2 r3 nY ix bu np st sr sx tk rn sh sn yw nw yo ce wo po ne cs sv mk sp rs bg dp) (Y_Mo_join_2 l a b v ha_ hbw_ hab_ hnw_ hb_)) (cs_La_124 E rfl rfl ⟨Nat.le_of_ble_eq_true rfl, Nat.le_of_ble_eq_true rfl⟩) rfl rfl (Nat.le_of_ble_eq_true rfl) ⟨by show _ ≤ 601024; omega, by show _ ≤ 7293000; omega⟩ d_La_law_875 ?_
  refine g_istore (lv' := [(6, .int (nI 0)), (5, .int (nI 1)), (4, .int (nI ti)), (3, .ref oa), (2, .ref (am 0)), (1, .ref (ad 0)), (0, .ref sb)]) E d_La_law_878 (by decide) rfl ?_
  refine g_aload_n E d_La_law_880 rfl 4 rfl ?_
  refine gpVi (As := []) (rest := []) E gO_w 57 wG_am rfl (fpi0 (pre := (oa, aX V ou) :: wC V ad r1 r2 r3 nY ix bu np st sr sx tk rn sh sn yw nw yo ce wo po ne cs sv mk sp rs bg dp) (C_Mo_thrown l)) (cs_La_92 E rfl rfl ⟨Nat.le_of_ble_eq_true rfl, Nat.le_of_ble_eq_true rfl⟩) rfl rfl (Nat.le_of_ble_eq_true rfl) ⟨by show _ ≤ 601024; omega, by show _ ≤ 7293000; omega⟩ d_La_law_881 ?_
  refine g_iload E d_La_law_884 1 rfl ?_
  refine g_ncmp_eq E 891 d_La_law_886 (by decide) (by omega) (by omega) (fun h1 => ?_) (fun h1 => ?_)
  · refine g_iload E d_La_law_891 1 rfl ?_
    refine g_nif_ne E 908 d_La_law_893 (by decide) (by decide) (fun _ => ?_) (fun h2 => absurd h2 (by decide))
    refine g_goto E 1527 d_La_law_908 (by decide) ?_
    refine g_lv [2, 3, 4, 5, 6] rfl ?_
    exact kk
  · exact absurd rfl h1

set_option maxHeartbeats 4000000 in
set_option maxRecDepth 100000 in
theorem K_clash_xt {p : Program} {l : Launch} {e : Env} {s : State} {m : MethodId} {below : List Frame} {meth : Method} {c : Code} {V : gV} {sb LL ti cells slots : Nat} {xs : Nat → Int32} {oa : Nat} {am : Nat → Nat} {ou : Int64} {ad r1 r2 r3 : Nat → Nat} {nY : Nat} {ix bu : Nat → Nat} {np : Nat} {st sr : Nat → Nat} {sx tk : Nat → Nat → Nat} {rn sh sn : Nat → Nat} {yw nw : Nat} {yo ce wo : Nat → Nat} {po ne : Nat → Option Nat} {cs : Nat → Nat} {sv : Nat → Nat → Nat} {mk : Nat} {sp rs : Nat → Int} {bg dp : Nat} {th_ nY_ : Nat} {ix_ bu_ : Nat → Nat} {np_ : Nat} {st_ sr_ go_ ca_ : Nat → Nat} {nw_ : Nat} {yo_ ce_ wo_ : Nat → Nat} {po_ ne_ : Nat → Option Nat} {sv_ : Nat → Nat} {cl_ : Nat → Bool} {mk_ bg_ dp_ : Nat} {sh_ nx_ : Nat → Nat} {spn_ : Int} (E : gE p s m #[Value.ref sb] c code 8 R_La V) (hX : va_X sb LL xs s s.heap) (hbl : sb < s.heap.size) (hXJ : XJ s) (hfl : l.flags = flags0) (hL : LL ≤ 2561) (hiL : ti + 5 ≤ LL) (hcl : cells + 1 ≤ 601024) (hsl : slots + 6 ≤ 7293000) (a b : Int32) (hb : (inR a (nI nw) && inR b (nI nw) && !decide (a = b)) = false) (hnw_ : nw_ ≤ 10) (hb_ : twoW nw_ a b = false) (hx1 : xs (ti + 1) = a) (hx2 : xs (ti + 2) = b) (hq : xs (ti + 3) ≠ 0)  (kk : gg p l e room_1 s m #[Value.ref sb] below meth c 8 (lw_Z below #[Value.ref sb] s) (cells + 1) (slots + 6) (gW V (fun q => s.heap.size ≤ q) s.heap (wG V oa ad r1 r2 r3 am ou nY ix bu np st sr sx tk rn sh sn yw nw yo ce wo po ne cs sv mk sp rs bg dp 1 nY_ ix_ bu_ np_ st_ sr_ go_ ca_ nw_ yo_ ce_ wo_ po_ ne_ sv_ cl_ mk_ bg_ dp_ sh_ nx_ spn_)) [(4, .int (nI ti)), (3, .ref oa), (2, .ref (am 0)), (1, .ref (ad 0)), (0, .ref sb)] 1527 []) : gg p l e room_1 s m #[Value.ref sb] below meth c 8 (lw_Z below #[Value.ref sb] s) cells slots (gW V (fun q => s.heap.size ≤ q) s.heap (wG V oa ad r1 r2 r3 am ou nY ix bu np st sr sx tk rn sh sn yw nw yo ce wo po ne cs sv mk sp rs bg dp th_ nY_ ix_ bu_ np_ st_ sr_ go_ ca_ nw_ yo_ ce_ wo_ po_ ne_ sv_ cl_ mk_ bg_ dp_ sh_ nx_ spn_)) [(4, .int (nI ti)), (3, .ref oa), (2, .ref (am 0)), (1, .ref (ad 0)), (0, .ref sb)] 911 [] := by
  refine g_aload_n E d_La_law_911 rfl 3 rfl ?_
  refine g_aload_n E d_La_law_912 rfl 4 rfl ?_
  refine g_iload E d_La_law_913 0 rfl ?_
  refine g_iconst (v := nI 1) E d_La_law_915 (by decide) ?_
  refine g_iadd E d_La_law_916 ?_
  refine g_topi (nI_add _ _) ?_
  refine g_scr E hX hbl (by omega) (by omega) d_La_law_917 ?_
  refine g_topi hx1 ?_
  refine g_aload_n E d_La_law_918 rfl 4 rfl ?_
  refine g_iload E d_La_law_919 0 rfl ?_
  refine g_iconst (v := nI 2) E d_La_law_921 (by decide) ?_
  refine g_iadd E d_La_law_922 ?_
  refine g_topi (nI_add _ _) ?_
  refine g_scr E hX hbl (by omega) (by omega) d_La_law_923 ?_
  refine g_topi hx2 ?_
  refine g_aload_n E d_La_law_924 rfl 4 rfl ?_
  refine g_iload E d_La_law_925 0 rfl ?_
  refine g_iconst (v := nI 3) E d_La_law_927 (by decide) ?_
  refine g_iadd E d_La_law_928 ?_
  refine g_topi (nI_add _ _) ?_
  refine g_scr E hX hbl (by omega) (by omega) d_La_law_929 ?_
  refine g_if_eq E 937 d_La_law_930 (by decide) (fun h1 => ?_) (fun h1 => ?_)
  · exact absurd h1 hq
  · refine g_iconst (v := nI 1) E d_La_law_933 (by decide) ?_
    refine g_goto E 938 d_La_law_934 (by decide) ?_
    refine g_topi (show nI 1 = bI true from rfl) ?_
    refine g_aload_n E d_La_law_938 rfl 1 rfl ?_
    refine gbLi (w := wG V oa ad r1 r2 r3 am ou nY ix bu np st sr sx tk rn sh sn yw nw yo ce wo po ne cs sv mk sp rs bg dp th_ nY_ ix_ bu_ np_ st_ sr_ go_ ca_ nw_ yo_ ce_ wo_ po_ ne_ sv_ cl_ mk_ bg_ dp_ sh_ nx_ spn_) (As := [.ref (ad 0), .int a, .int b, .int (bI true), .ref oa]) (rest := []) E hXJ (fbi (post := wM V am th_ nY_ ix_ bu_ np_ st_ sr_ go_ ca_ nw_ yo_ ce_ wo_ po_ ne_ sv_ cl_ mk_ bg_ dp_ sh_ nx_ spn_) (B_CY_clash l hfl (oa := oa) (ou := ou) a b true hb)) kc_La_clash kl_La_125 ks_La_clash kn_La kd_La_clash rfl rfl ⟨Nat.le_of_ble_eq_true rfl, Nat.le_of_ble_eq_true rfl⟩ rfl rfl (Nat.le_of_ble_eq_true rfl) ⟨by show _ ≤ 601024; omega, by show _ ≤ 7293000; omega⟩ d_La_law_939 ?_
    refine g_istore (lv' := [(5, .int (nI 1)), (4, .int (nI ti)), (3, .ref oa), (2, .ref (am 0)), (1, .ref (ad 0)), (0, .ref sb)]) E d_La_law_942 (by decide) rfl ?_
    refine g_aload_n E d_La_law_944 rfl 3 rfl ?_
    refine g_aload_n E d_La_law_945 rfl 5 rfl ?_
    refine g_iload E d_La_law_946 1 rfl ?_
    refine g_iconst (v := nI 1) E d_La_law_948 (by decide) ?_
    refine g_iadd E d_La_law_949 ?_
    refine g_topi (nI_add _ _) ?_
    refine g_scr E hX hbl (by omega) (by omega) d_La_law_950 ?_
    refine g_topi hx1 ?_
    refine g_aload_n E d_La_law_951 rfl 5 rfl ?_
    refine g_iload E d_La_law_952 1 rfl ?_
    refine g_iconst (v := nI 2) E d_La_law_954 (by decide) ?_
    refine g_iadd E d_La_law_955 ?_
    refine g_topi (nI_add _ _) ?_
    refine g_scr E hX hbl (by omega) (by omega) d_La_law_956 ?_
    refine g_topi hx2 ?_
    refine g_aload_n E d_La_law_957 rfl 5 rfl ?_
    refine g_iload E d_La_law_958 1 rfl ?_
    refine g_iconst (v := nI 3) E d_La_law_960 (by decide) ?_
    refine g_iadd E d_La_law_961 ?_
    refine g_topi (nI_add _ _) ?_
    refine g_scr E hX hbl (by omega) (by omega) d_La_law_962 ?_
    refine g_if_eq E 970 d_La_law_963 (by decide) (fun h2 => ?_) (fun h2 => ?_)
    · exact absurd h2 hq
    · refine g_iconst (v := nI 1) E d_La_law_966 (by decide) ?_
      refine g_goto E 971 d_La_law_967 (by decide) ?_
      refine gwVi (w := wG V oa ad r1 r2 r3 am ou nY ix bu np st sr sx tk rn sh sn yw nw yo ce wo po ne cs sv mk sp rs bg dp th_ nY_ ix_ bu_ np_ st_ sr_ go_ ca_ nw_ yo_ ce_ wo_ po_ ne_ sv_ cl_ mk_ bg_ dp_ sh_ nx_ spn_) (w' := wG V oa ad r1 r2 r3 am ou nY ix bu np st sr sx tk rn sh sn yw nw yo ce wo po ne cs sv mk sp rs bg dp 1 nY_ ix_ bu_ np_ st_ sr_ go_ ca_ nw_ yo_ ce_ wo_ po_ ne_ sv_ cl_ mk_ bg_ dp_ sh_ nx_ spn_) (mc := 0) (ms := 0) (As := [.int a, .int b, .int (nI 1)]) (rest := []) E (fun _ h => h) 57 wG_am rfl (fi (pre := (oa, aX V ou) :: wC V ad r1 r2 r3 nY ix bu np st sr sx tk rn sh sn yw nw yo ce wo po ne cs sv mk sp rs bg dp) (Y_Mo_clash l a b true hnw_ hb_)) (cs_La_128 E rfl rfl ⟨Nat.le_of_ble_eq_true rfl, Nat.le_of_ble_eq_true rfl⟩) rfl rfl (Nat.le_of_ble_eq_true rfl) ⟨by show _ ≤ 601024; omega, by show _ ≤ 7293000; omega⟩ d_La_law_971 ?_
      refine g_istore (lv' := [(6, .int (nI 0)), (5, .int (nI 1)), (4, .int (nI ti)), (3, .ref oa), (2, .ref (am 0)), (1, .ref (ad 0)), (0, .ref sb)]) E d_La_law_974 (by decide) rfl ?_
      refine g_aload_n E d_La_law_976 rfl 4 rfl ?_
      refine gpVi (As := []) (rest := []) E gO_w 57 wG_am rfl (fpi0 (pre := (oa, aX V ou) :: wC V ad r1 r2 r3 nY ix bu np st sr sx tk rn sh sn yw nw yo ce wo po ne cs sv mk sp rs bg dp) (C_Mo_thrown l)) (cs_La_92 E rfl rfl ⟨Nat.le_of_ble_eq_true rfl, Nat.le_of_ble_eq_true rfl⟩) rfl rfl (Nat.le_of_ble_eq_true rfl) ⟨by show _ ≤ 601024; omega, by show _ ≤ 7293000; omega⟩ d_La_law_977 ?_
      refine g_iload E d_La_law_980 1 rfl ?_
      refine g_ncmp_eq E 987 d_La_law_982 (by decide) (by omega) (by omega) (fun h3 => ?_) (fun h3 => ?_)
      · refine g_iload E d_La_law_987 1 rfl ?_
        refine g_nif_ne E 1011 d_La_law_989 (by decide) (by decide) (fun _ => ?_) (fun h4 => absurd h4 (by decide))
        refine g_goto E 1527 d_La_law_1011 (by decide) ?_
        refine g_lv [2, 3, 4, 5, 6] rfl ?_
        exact kk
      · exact absurd rfl h3

set_option maxHeartbeats 4000000 in
set_option maxRecDepth 100000 in
theorem K_clash_xf {p : Program} {l : Launch} {e : Env} {s : State} {m : MethodId} {below : List Frame} {meth : Method} {c : Code} {V : gV} {sb LL ti cells slots : Nat} {xs : Nat → Int32} {oa : Nat} {am : Nat → Nat} {ou : Int64} {ad r1 r2 r3 : Nat → Nat} {nY : Nat} {ix bu : Nat → Nat} {np : Nat} {st sr : Nat → Nat} {sx tk : Nat → Nat → Nat} {rn sh sn : Nat → Nat} {yw nw : Nat} {yo ce wo : Nat → Nat} {po ne : Nat → Option Nat} {cs : Nat → Nat} {sv : Nat → Nat → Nat} {mk : Nat} {sp rs : Nat → Int} {bg dp : Nat} {th_ nY_ : Nat} {ix_ bu_ : Nat → Nat} {np_ : Nat} {st_ sr_ go_ ca_ : Nat → Nat} {nw_ : Nat} {yo_ ce_ wo_ : Nat → Nat} {po_ ne_ : Nat → Option Nat} {sv_ : Nat → Nat} {cl_ : Nat → Bool} {mk_ bg_ dp_ : Nat} {sh_ nx_ : Nat → Nat} {spn_ : Int} (E : gE p s m #[Value.ref sb] c code 8 R_La V) (hX : va_X sb LL xs s s.heap) (hbl : sb < s.heap.size) (hXJ : XJ s) (hfl : l.flags = flags0) (hL : LL ≤ 2561) (hiL : ti + 5 ≤ LL) (hcl : cells + 1 ≤ 601024) (hsl : slots + 6 ≤ 7293000) (a b : Int32) (hb : (inR a (nI nw) && inR b (nI nw) && !decide (a = b)) = false) (hnw_ : nw_ ≤ 10) (hb_ : twoW nw_ a b = false) (hx1 : xs (ti + 1) = a) (hx2 : xs (ti + 2) = b) (hq : xs (ti + 3) = 0)  (kk : gg p l e room_1 s m #[Value.ref sb] below meth c 8 (lw_Z below #[Value.ref sb] s) (cells + 1) (slots + 6) (gW V (fun q => s.heap.size ≤ q) s.heap (wG V oa ad r1 r2 r3 am ou nY ix bu np st sr sx tk rn sh sn yw nw yo ce wo po ne cs sv mk sp rs bg dp 1 nY_ ix_ bu_ np_ st_ sr_ go_ ca_ nw_ yo_ ce_ wo_ po_ ne_ sv_ cl_ mk_ bg_ dp_ sh_ nx_ spn_)) [(4, .int (nI ti)), (3, .ref oa), (2, .ref (am 0)), (1, .ref (ad 0)), (0, .ref sb)] 1527 []) : gg p l e room_1 s m #[Value.ref sb] below meth c 8 (lw_Z below #[Value.ref sb] s) cells slots (gW V (fun q => s.heap.size ≤ q) s.heap (wG V oa ad r1 r2 r3 am ou nY ix bu np st sr sx tk rn sh sn yw nw yo ce wo po ne cs sv mk sp rs bg dp th_ nY_ ix_ bu_ np_ st_ sr_ go_ ca_ nw_ yo_ ce_ wo_ po_ ne_ sv_ cl_ mk_ bg_ dp_ sh_ nx_ spn_)) [(4, .int (nI ti)), (3, .ref oa), (2, .ref (am 0)), (1, .ref (ad 0)), (0, .ref sb)] 911 [] := by
  refine g_aload_n E d_La_law_911 rfl 3 rfl ?_
  refine g_aload_n E d_La_law_912 rfl 4 rfl ?_
  refine g_iload E d_La_law_913 0 rfl ?_
  refine g_iconst (v := nI 1) E d_La_law_915 (by decide) ?_
  refine g_iadd E d_La_law_916 ?_
  refine g_topi (nI_add _ _) ?_
  refine g_scr E hX hbl (by omega) (by omega) d_La_law_917 ?_
  refine g_topi hx1 ?_
  refine g_aload_n E d_La_law_918 rfl 4 rfl ?_
  refine g_iload E d_La_law_919 0 rfl ?_
  refine g_iconst (v := nI 2) E d_La_law_921 (by decide) ?_
  refine g_iadd E d_La_law_922 ?_
  refine g_topi (nI_add _ _) ?_
  refine g_scr E hX hbl (by omega) (by omega) d_La_law_923 ?_
  refine g_topi hx2 ?_
  refine g_aload_n E d_La_law_924 rfl 4 rfl ?_
  refine g_iload E d_La_law_925 0 rfl ?_
  refine g_iconst (v := nI 3) E d_La_law_927 (by decide) ?_
  refine g_iadd E d_La_law_928 ?_
  refine g_topi (nI_add _ _) ?_
  refine g_scr E hX hbl (by omega) (by omega) d_La_law_929 ?_
  refine g_if_eq E 937 d_La_law_930 (by decide) (fun h1 => ?_) (fun h1 => ?_)
  · refine g_iconst (v := nI 0) E d_La_law_937 (by decide) ?_
    refine g_topi (show nI 0 = bI false from rfl) ?_
    refine g_aload_n E d_La_law_938 rfl 1 rfl ?_
    refine gbLi (w := wG V oa ad r1 r2 r3 am ou nY ix bu np st sr sx tk rn sh sn yw nw yo ce wo po ne cs sv mk sp rs bg dp th_ nY_ ix_ bu_ np_ st_ sr_ go_ ca_ nw_ yo_ ce_ wo_ po_ ne_ sv_ cl_ mk_ bg_ dp_ sh_ nx_ spn_) (As := [.ref (ad 0), .int a, .int b, .int (bI false), .ref oa]) (rest := []) E hXJ (fbi (post := wM V am th_ nY_ ix_ bu_ np_ st_ sr_ go_ ca_ nw_ yo_ ce_ wo_ po_ ne_ sv_ cl_ mk_ bg_ dp_ sh_ nx_ spn_) (B_CY_clash l hfl (oa := oa) (ou := ou) a b false hb)) kc_La_clash kl_La_125 ks_La_clash kn_La kd_La_clash rfl rfl ⟨Nat.le_of_ble_eq_true rfl, Nat.le_of_ble_eq_true rfl⟩ rfl rfl (Nat.le_of_ble_eq_true rfl) ⟨by show _ ≤ 601024; omega, by show _ ≤ 7293000; omega⟩ d_La_law_939 ?_
    refine g_istore (lv' := [(5, .int (nI 1)), (4, .int (nI ti)), (3, .ref oa), (2, .ref (am 0)), (1, .ref (ad 0)), (0, .ref sb)]) E d_La_law_942 (by decide) rfl ?_
    refine g_aload_n E d_La_law_944 rfl 3 rfl ?_
    refine g_aload_n E d_La_law_945 rfl 5 rfl ?_
    refine g_iload E d_La_law_946 1 rfl ?_
    refine g_iconst (v := nI 1) E d_La_law_948 (by decide) ?_
    refine g_iadd E d_La_law_949 ?_
    refine g_topi (nI_add _ _) ?_
    refine g_scr E hX hbl (by omega) (by omega) d_La_law_950 ?_
    refine g_topi hx1 ?_
    refine g_aload_n E d_La_law_951 rfl 5 rfl ?_
    refine g_iload E d_La_law_952 1 rfl ?_
    refine g_iconst (v := nI 2) E d_La_law_954 (by decide) ?_
    refine g_iadd E d_La_law_955 ?_
    refine g_topi (nI_add _ _) ?_
    refine g_scr E hX hbl (by omega) (by omega) d_La_law_956 ?_
    refine g_topi hx2 ?_
    refine g_aload_n E d_La_law_957 rfl 5 rfl ?_
    refine g_iload E d_La_law_958 1 rfl ?_
    refine g_iconst (v := nI 3) E d_La_law_960 (by decide) ?_
    refine g_iadd E d_La_law_961 ?_
    refine g_topi (nI_add _ _) ?_
    refine g_scr E hX hbl (by omega) (by omega) d_La_law_962 ?_
    refine g_if_eq E 970 d_La_law_963 (by decide) (fun h2 => ?_) (fun h2 => ?_)
    · refine g_iconst (v := nI 0) E d_La_law_970 (by decide) ?_
      refine gwVi (w := wG V oa ad r1 r2 r3 am ou nY ix bu np st sr sx tk rn sh sn yw nw yo ce wo po ne cs sv mk sp rs bg dp th_ nY_ ix_ bu_ np_ st_ sr_ go_ ca_ nw_ yo_ ce_ wo_ po_ ne_ sv_ cl_ mk_ bg_ dp_ sh_ nx_ spn_) (w' := wG V oa ad r1 r2 r3 am ou nY ix bu np st sr sx tk rn sh sn yw nw yo ce wo po ne cs sv mk sp rs bg dp 1 nY_ ix_ bu_ np_ st_ sr_ go_ ca_ nw_ yo_ ce_ wo_ po_ ne_ sv_ cl_ mk_ bg_ dp_ sh_ nx_ spn_) (mc := 0) (ms := 0) (As := [.int a, .int b, .int (nI 0)]) (rest := []) E (fun _ h => h) 57 wG_am rfl (fi (pre := (oa, aX V ou) :: wC V ad r1 r2 r3 nY ix bu np st sr sx tk rn sh sn yw nw yo ce wo po ne cs sv mk sp rs bg dp) (Y_Mo_clash l a b false hnw_ hb_)) (cs_La_128 E rfl rfl ⟨Nat.le_of_ble_eq_true rfl, Nat.le_of_ble_eq_true rfl⟩) rfl rfl (Nat.le_of_ble_eq_true rfl) ⟨by show _ ≤ 601024; omega, by show _ ≤ 7293000; omega⟩ d_La_law_971 ?_
      refine g_istore (lv' := [(6, .int (nI 0)), (5, .int (nI 1)), (4, .int (nI ti)), (3, .ref oa), (2, .ref (am 0)), (1, .ref (ad 0)), (0, .ref sb)]) E d_La_law_974 (by decide) rfl ?_
      refine g_aload_n E d_La_law_976 rfl 4 rfl ?_
      refine gpVi (As := []) (rest := []) E gO_w 57 wG_am rfl (fpi0 (pre := (oa, aX V ou) :: wC V ad r1 r2 r3 nY ix bu np st sr sx tk rn sh sn yw nw yo ce wo po ne cs sv mk sp rs bg dp) (C_Mo_thrown l)) (cs_La_92 E rfl rfl ⟨Nat.le_of_ble_eq_true rfl, Nat.le_of_ble_eq_true rfl⟩) rfl rfl (Nat.le_of_ble_eq_true rfl) ⟨by show _ ≤ 601024; omega, by show _ ≤ 7293000; omega⟩ d_La_law_977 ?_
      refine g_iload E d_La_law_980 1 rfl ?_
      refine g_ncmp_eq E 987 d_La_law_982 (by decide) (by omega) (by omega) (fun h3 => ?_) (fun h3 => ?_)
      · refine g_iload E d_La_law_987 1 rfl ?_
        refine g_nif_ne E 1011 d_La_law_989 (by decide) (by decide) (fun _ => ?_) (fun h4 => absurd h4 (by decide))
        refine g_goto E 1527 d_La_law_1011 (by decide) ?_
        refine g_lv [2, 3, 4, 5, 6] rfl ?_
        exact kk
      · exact absurd rfl h3
    · exact absurd hq h2
  · exact absurd hq h1

set_option maxHeartbeats 4000000 in
set_option maxRecDepth 100000 in
theorem K_needs_x {p : Program} {l : Launch} {e : Env} {s : State} {m : MethodId} {below : List Frame} {meth : Method} {c : Code} {V : gV} {sb LL ti cells slots : Nat} {xs : Nat → Int32} {oa : Nat} {am : Nat → Nat} {ou : Int64} {ad r1 r2 r3 : Nat → Nat} {nY : Nat} {ix bu : Nat → Nat} {np : Nat} {st sr : Nat → Nat} {sx tk : Nat → Nat → Nat} {rn sh sn : Nat → Nat} {yw nw : Nat} {yo ce wo : Nat → Nat} {po ne : Nat → Option Nat} {cs : Nat → Nat} {sv : Nat → Nat → Nat} {mk : Nat} {sp rs : Nat → Int} {bg dp : Nat} {th_ nY_ : Nat} {ix_ bu_ : Nat → Nat} {np_ : Nat} {st_ sr_ go_ ca_ : Nat → Nat} {nw_ : Nat} {yo_ ce_ wo_ : Nat → Nat} {po_ ne_ : Nat → Option Nat} {sv_ : Nat → Nat} {cl_ : Nat → Bool} {mk_ bg_ dp_ : Nat} {sh_ nx_ : Nat → Nat} {spn_ : Int} (E : gE p s m #[Value.ref sb] c code 8 R_La V) (hX : va_X sb LL xs s s.heap) (hbl : sb < s.heap.size) (hXJ : XJ s) (hfl : l.flags = flags0) (hL : LL ≤ 2561) (hiL : ti + 5 ≤ LL) (hcl : cells + 1 ≤ 601024) (hsl : slots + 6 ≤ 7293000) (a q : Int32) (hb : (inR a (nI nw) && (decide (q = oN none) || inR q (nI nw)) && !decide (a = q)) = false) (hnw_ : nw_ ≤ 10) (hb_ : (inR a (nI nw_) && (decide (q = oN none) || inR q (nI nw_)) && !decide (a = q)) = false) (hx1 : xs (ti + 1) = a) (hx2 : xs (ti + 2) = q)  (kk : gg p l e room_1 s m #[Value.ref sb] below meth c 8 (lw_Z below #[Value.ref sb] s) (cells + 1) (slots + 6) (gW V (fun q => s.heap.size ≤ q) s.heap (wG V oa ad r1 r2 r3 am ou nY ix bu np st sr sx tk rn sh sn yw nw yo ce wo po ne cs sv mk sp rs bg dp 1 nY_ ix_ bu_ np_ st_ sr_ go_ ca_ nw_ yo_ ce_ wo_ po_ ne_ sv_ cl_ mk_ bg_ dp_ sh_ nx_ spn_)) [(4, .int (nI ti)), (3, .ref oa), (2, .ref (am 0)), (1, .ref (ad 0)), (0, .ref sb)] 1527 []) : gg p l e room_1 s m #[Value.ref sb] below meth c 8 (lw_Z below #[Value.ref sb] s) cells slots (gW V (fun q => s.heap.size ≤ q) s.heap (wG V oa ad r1 r2 r3 am ou nY ix bu np st sr sx tk rn sh sn yw nw yo ce wo po ne cs sv mk sp rs bg dp th_ nY_ ix_ bu_ np_ st_ sr_ go_ ca_ nw_ yo_ ce_ wo_ po_ ne_ sv_ cl_ mk_ bg_ dp_ sh_ nx_ spn_)) [(4, .int (nI ti)), (3, .ref oa), (2, .ref (am 0)), (1, .ref (ad 0)), (0, .ref sb)] 1014 [] := by
  refine g_aload_n E d_La_law_1014 rfl 3 rfl ?_
  refine g_aload_n E d_La_law_1015 rfl 4 rfl ?_
  refine g_iload E d_La_law_1016 0 rfl ?_
  refine g_iconst (v := nI 1) E d_La_law_1018 (by decide) ?_
  refine g_iadd E d_La_law_1019 ?_
  refine g_topi (nI_add _ _) ?_
  refine g_scr E hX hbl (by omega) (by omega) d_La_law_1020 ?_
  refine g_topi hx1 ?_
  refine g_aload_n E d_La_law_1021 rfl 4 rfl ?_
  refine g_iload E d_La_law_1022 0 rfl ?_
  refine g_iconst (v := nI 2) E d_La_law_1024 (by decide) ?_
  refine g_iadd E d_La_law_1025 ?_
  refine g_topi (nI_add _ _) ?_
  refine g_scr E hX hbl (by omega) (by omega) d_La_law_1026 ?_
  refine g_topi hx2 ?_
  refine g_aload_n E d_La_law_1027 rfl 1 rfl ?_
  refine gbLi (w := wG V oa ad r1 r2 r3 am ou nY ix bu np st sr sx tk rn sh sn yw nw yo ce wo po ne cs sv mk sp rs bg dp th_ nY_ ix_ bu_ np_ st_ sr_ go_ ca_ nw_ yo_ ce_ wo_ po_ ne_ sv_ cl_ mk_ bg_ dp_ sh_ nx_ spn_) (As := [.ref (ad 0), .int a, .int q, .ref oa]) (rest := []) E hXJ (fbi (post := wM V am th_ nY_ ix_ bu_ np_ st_ sr_ go_ ca_ nw_ yo_ ce_ wo_ po_ ne_ sv_ cl_ mk_ bg_ dp_ sh_ nx_ spn_) (B_CY_needs l hfl (oa := oa) (ou := ou) a q hb)) kc_La_needs kl_La_129 ks_La_needs kn_La kd_La_needs rfl rfl ⟨Nat.le_of_ble_eq_true rfl, Nat.le_of_ble_eq_true rfl⟩ rfl rfl (Nat.le_of_ble_eq_true rfl) ⟨by show _ ≤ 601024; omega, by show _ ≤ 7293000; omega⟩ d_La_law_1028 ?_
  refine g_istore (lv' := [(5, .int (nI 1)), (4, .int (nI ti)), (3, .ref oa), (2, .ref (am 0)), (1, .ref (ad 0)), (0, .ref sb)]) E d_La_law_1031 (by decide) rfl ?_
  refine g_aload_n E d_La_law_1033 rfl 3 rfl ?_
  refine g_aload_n E d_La_law_1034 rfl 5 rfl ?_
  refine g_iload E d_La_law_1035 1 rfl ?_
  refine g_iconst (v := nI 1) E d_La_law_1037 (by decide) ?_
  refine g_iadd E d_La_law_1038 ?_
  refine g_topi (nI_add _ _) ?_
  refine g_scr E hX hbl (by omega) (by omega) d_La_law_1039 ?_
  refine g_topi hx1 ?_
  refine g_aload_n E d_La_law_1040 rfl 5 rfl ?_
  refine g_iload E d_La_law_1041 1 rfl ?_
  refine g_iconst (v := nI 2) E d_La_law_1043 (by decide) ?_
  refine g_iadd E d_La_law_1044 ?_
  refine g_topi (nI_add _ _) ?_
  refine g_scr E hX hbl (by omega) (by omega) d_La_law_1045 ?_
  refine g_topi hx2 ?_
  refine gwVi (w := wG V oa ad r1 r2 r3 am ou nY ix bu np st sr sx tk rn sh sn yw nw yo ce wo po ne cs sv mk sp rs bg dp th_ nY_ ix_ bu_ np_ st_ sr_ go_ ca_ nw_ yo_ ce_ wo_ po_ ne_ sv_ cl_ mk_ bg_ dp_ sh_ nx_ spn_) (w' := wG V oa ad r1 r2 r3 am ou nY ix bu np st sr sx tk rn sh sn yw nw yo ce wo po ne cs sv mk sp rs bg dp 1 nY_ ix_ bu_ np_ st_ sr_ go_ ca_ nw_ yo_ ce_ wo_ po_ ne_ sv_ cl_ mk_ bg_ dp_ sh_ nx_ spn_) (mc := 0) (ms := 0) (As := [.int a, .int q]) (rest := []) E (fun _ h => h) 57 wG_am rfl (fi (pre := (oa, aX V ou) :: wC V ad r1 r2 r3 nY ix bu np st sr sx tk rn sh sn yw nw yo ce wo po ne cs sv mk sp rs bg dp) (Y_Mo_needs l a q hnw_ hb_)) (cs_La_131 E rfl rfl ⟨Nat.le_of_ble_eq_true rfl, Nat.le_of_ble_eq_true rfl⟩) rfl rfl (Nat.le_of_ble_eq_true rfl) ⟨by show _ ≤ 601024; omega, by show _ ≤ 7293000; omega⟩ d_La_law_1046 ?_
  refine g_istore (lv' := [(6, .int (nI 0)), (5, .int (nI 1)), (4, .int (nI ti)), (3, .ref oa), (2, .ref (am 0)), (1, .ref (ad 0)), (0, .ref sb)]) E d_La_law_1049 (by decide) rfl ?_
  refine g_aload_n E d_La_law_1051 rfl 4 rfl ?_
  refine gpVi (As := []) (rest := []) E gO_w 57 wG_am rfl (fpi0 (pre := (oa, aX V ou) :: wC V ad r1 r2 r3 nY ix bu np st sr sx tk rn sh sn yw nw yo ce wo po ne cs sv mk sp rs bg dp) (C_Mo_thrown l)) (cs_La_92 E rfl rfl ⟨Nat.le_of_ble_eq_true rfl, Nat.le_of_ble_eq_true rfl⟩) rfl rfl (Nat.le_of_ble_eq_true rfl) ⟨by show _ ≤ 601024; omega, by show _ ≤ 7293000; omega⟩ d_La_law_1052 ?_
  refine g_iload E d_La_law_1055 1 rfl ?_
  refine g_ncmp_eq E 1062 d_La_law_1057 (by decide) (by omega) (by omega) (fun h1 => ?_) (fun h1 => ?_)
  · refine g_iload E d_La_law_1062 1 rfl ?_
    refine g_nif_ne E 1079 d_La_law_1064 (by decide) (by decide) (fun _ => ?_) (fun h2 => absurd h2 (by decide))
    refine g_goto E 1527 d_La_law_1079 (by decide) ?_
    refine g_lv [2, 3, 4, 5, 6] rfl ?_
    exact kk
  · exact absurd rfl h1

set_option maxHeartbeats 4000000 in
set_option maxRecDepth 100000 in
theorem K_chosen_x {p : Program} {l : Launch} {e : Env} {s : State} {m : MethodId} {below : List Frame} {meth : Method} {c : Code} {V : gV} {sb LL ti cells slots : Nat} {xs : Nat → Int32} {oa : Nat} {am : Nat → Nat} {ou : Int64} {ad r1 r2 r3 : Nat → Nat} {nY : Nat} {ix bu : Nat → Nat} {np : Nat} {st sr : Nat → Nat} {sx tk : Nat → Nat → Nat} {rn sh sn : Nat → Nat} {yw nw : Nat} {yo ce wo : Nat → Nat} {po ne : Nat → Option Nat} {cs : Nat → Nat} {sv : Nat → Nat → Nat} {mk : Nat} {sp rs : Nat → Int} {bg dp : Nat} {th_ nY_ : Nat} {ix_ bu_ : Nat → Nat} {np_ : Nat} {st_ sr_ go_ ca_ : Nat → Nat} {nw_ : Nat} {yo_ ce_ wo_ : Nat → Nat} {po_ ne_ : Nat → Option Nat} {sv_ : Nat → Nat} {cl_ : Nat → Bool} {mk_ bg_ dp_ : Nat} {sh_ nx_ : Nat → Nat} {spn_ : Int} (E : gE p s m #[Value.ref sb] c code 8 R_La V) (hX : va_X sb LL xs s s.heap) (hbl : sb < s.heap.size) (hXJ : XJ s) (hfl : l.flags = flags0) (hL : LL ≤ 2561) (hiL : ti + 5 ≤ LL) (hcl : cells + 1 ≤ 601024) (hsl : slots + 6 ≤ 7293000) (a : Int32) (hb : inR a (nI nw) = false) (hnw_ : nw_ ≤ 10) (hb_ : inR a (nI nw_) = false) (hx1 : xs (ti + 1) = a)  (kk : gg p l e room_1 s m #[Value.ref sb] below meth c 8 (lw_Z below #[Value.ref sb] s) (cells + 1) (slots + 6) (gW V (fun q => s.heap.size ≤ q) s.heap (wG V oa ad r1 r2 r3 am ou nY ix bu np st sr sx tk rn sh sn yw nw yo ce wo po ne cs sv mk sp rs bg dp 1 nY_ ix_ bu_ np_ st_ sr_ go_ ca_ nw_ yo_ ce_ wo_ po_ ne_ sv_ cl_ mk_ bg_ dp_ sh_ nx_ spn_)) [(4, .int (nI ti)), (3, .ref oa), (2, .ref (am 0)), (1, .ref (ad 0)), (0, .ref sb)] 1527 []) : gg p l e room_1 s m #[Value.ref sb] below meth c 8 (lw_Z below #[Value.ref sb] s) cells slots (gW V (fun q => s.heap.size ≤ q) s.heap (wG V oa ad r1 r2 r3 am ou nY ix bu np st sr sx tk rn sh sn yw nw yo ce wo po ne cs sv mk sp rs bg dp th_ nY_ ix_ bu_ np_ st_ sr_ go_ ca_ nw_ yo_ ce_ wo_ po_ ne_ sv_ cl_ mk_ bg_ dp_ sh_ nx_ spn_)) [(4, .int (nI ti)), (3, .ref oa), (2, .ref (am 0)), (1, .ref (ad 0)), (0, .ref sb)] 1095 [] := by
  refine g_aload_n E d_La_law_1095 rfl 3 rfl ?_
  refine g_aload_n E d_La_law_1096 rfl 4 rfl ?_
  refine g_iload E d_La_law_1097 0 rfl ?_
  refine g_iconst (v := nI 1) E d_La_law_1099 (by decide) ?_
  refine g_iadd E d_La_law_1100 ?_
  refine g_topi (nI_add _ _) ?_
  refine g_scr E hX hbl (by omega) (by omega) d_La_law_1101 ?_
  refine g_topi hx1 ?_
  refine g_aload_n E d_La_law_1102 rfl 1 rfl ?_
  refine gbLi (w := wG V oa ad r1 r2 r3 am ou nY ix bu np st sr sx tk rn sh sn yw nw yo ce wo po ne cs sv mk sp rs bg dp th_ nY_ ix_ bu_ np_ st_ sr_ go_ ca_ nw_ yo_ ce_ wo_ po_ ne_ sv_ cl_ mk_ bg_ dp_ sh_ nx_ spn_) (As := [.ref (ad 0), .int a, .ref oa]) (rest := []) E hXJ (fbi (post := wM V am th_ nY_ ix_ bu_ np_ st_ sr_ go_ ca_ nw_ yo_ ce_ wo_ po_ ne_ sv_ cl_ mk_ bg_ dp_ sh_ nx_ spn_) (B_CY_chosen l hfl (oa := oa) (ou := ou) a hb)) kc_La_chosen kl_La_136 ks_La_chosen kn_La kd_La_chosen rfl rfl ⟨Nat.le_of_ble_eq_true rfl, Nat.le_of_ble_eq_true rfl⟩ rfl rfl (Nat.le_of_ble_eq_true rfl) ⟨by show _ ≤ 601024; omega, by show _ ≤ 7293000; omega⟩ d_La_law_1103 ?_
  refine g_istore (lv' := [(5, .int (nI 1)), (4, .int (nI ti)), (3, .ref oa), (2, .ref (am 0)), (1, .ref (ad 0)), (0, .ref sb)]) E d_La_law_1106 (by decide) rfl ?_
  refine g_aload_n E d_La_law_1108 rfl 3 rfl ?_
  refine g_aload_n E d_La_law_1109 rfl 5 rfl ?_
  refine g_iload E d_La_law_1110 1 rfl ?_
  refine g_iconst (v := nI 1) E d_La_law_1112 (by decide) ?_
  refine g_iadd E d_La_law_1113 ?_
  refine g_topi (nI_add _ _) ?_
  refine g_scr E hX hbl (by omega) (by omega) d_La_law_1114 ?_
  refine g_topi hx1 ?_
  refine gwVi (w := wG V oa ad r1 r2 r3 am ou nY ix bu np st sr sx tk rn sh sn yw nw yo ce wo po ne cs sv mk sp rs bg dp th_ nY_ ix_ bu_ np_ st_ sr_ go_ ca_ nw_ yo_ ce_ wo_ po_ ne_ sv_ cl_ mk_ bg_ dp_ sh_ nx_ spn_) (w' := wG V oa ad r1 r2 r3 am ou nY ix bu np st sr sx tk rn sh sn yw nw yo ce wo po ne cs sv mk sp rs bg dp 1 nY_ ix_ bu_ np_ st_ sr_ go_ ca_ nw_ yo_ ce_ wo_ po_ ne_ sv_ cl_ mk_ bg_ dp_ sh_ nx_ spn_) (mc := 0) (ms := 0) (As := [.int a]) (rest := []) E (fun _ h => h) 57 wG_am rfl (fi (pre := (oa, aX V ou) :: wC V ad r1 r2 r3 nY ix bu np st sr sx tk rn sh sn yw nw yo ce wo po ne cs sv mk sp rs bg dp) (Y_Mo_chosen l a hnw_ hb_)) (cs_La_139 E rfl rfl ⟨Nat.le_of_ble_eq_true rfl, Nat.le_of_ble_eq_true rfl⟩) rfl rfl (Nat.le_of_ble_eq_true rfl) ⟨by show _ ≤ 601024; omega, by show _ ≤ 7293000; omega⟩ d_La_law_1115 ?_
  refine g_istore (lv' := [(6, .int (nI 0)), (5, .int (nI 1)), (4, .int (nI ti)), (3, .ref oa), (2, .ref (am 0)), (1, .ref (ad 0)), (0, .ref sb)]) E d_La_law_1118 (by decide) rfl ?_
  refine g_aload_n E d_La_law_1120 rfl 4 rfl ?_
  refine gpVi (As := []) (rest := []) E gO_w 57 wG_am rfl (fpi0 (pre := (oa, aX V ou) :: wC V ad r1 r2 r3 nY ix bu np st sr sx tk rn sh sn yw nw yo ce wo po ne cs sv mk sp rs bg dp) (C_Mo_thrown l)) (cs_La_92 E rfl rfl ⟨Nat.le_of_ble_eq_true rfl, Nat.le_of_ble_eq_true rfl⟩) rfl rfl (Nat.le_of_ble_eq_true rfl) ⟨by show _ ≤ 601024; omega, by show _ ≤ 7293000; omega⟩ d_La_law_1121 ?_
  refine g_iload E d_La_law_1124 1 rfl ?_
  refine g_ncmp_eq E 1131 d_La_law_1126 (by decide) (by omega) (by omega) (fun h1 => ?_) (fun h1 => ?_)
  · refine g_iload E d_La_law_1131 1 rfl ?_
    refine g_nif_ne E 1155 d_La_law_1133 (by decide) (by decide) (fun _ => ?_) (fun h2 => absurd h2 (by decide))
    refine g_goto E 1527 d_La_law_1155 (by decide) ?_
    refine g_lv [2, 3, 4, 5, 6] rfl ?_
    exact kk
  · exact absurd rfl h1

set_option maxHeartbeats 4000000 in
set_option maxRecDepth 100000 in
theorem K_costs_x {p : Program} {l : Launch} {e : Env} {s : State} {m : MethodId} {below : List Frame} {meth : Method} {c : Code} {V : gV} {sb LL ti cells slots : Nat} {xs : Nat → Int32} {oa : Nat} {am : Nat → Nat} {ou : Int64} {ad r1 r2 r3 : Nat → Nat} {nY : Nat} {ix bu : Nat → Nat} {np : Nat} {st sr : Nat → Nat} {sx tk : Nat → Nat → Nat} {rn sh sn : Nat → Nat} {yw nw : Nat} {yo ce wo : Nat → Nat} {po ne : Nat → Option Nat} {cs : Nat → Nat} {sv : Nat → Nat → Nat} {mk : Nat} {sp rs : Nat → Int} {bg dp : Nat} {th_ nY_ : Nat} {ix_ bu_ : Nat → Nat} {np_ : Nat} {st_ sr_ go_ ca_ : Nat → Nat} {nw_ : Nat} {yo_ ce_ wo_ : Nat → Nat} {po_ ne_ : Nat → Option Nat} {sv_ : Nat → Nat} {cl_ : Nat → Bool} {mk_ bg_ dp_ : Nat} {sh_ nx_ : Nat → Nat} {spn_ : Int} (E : gE p s m #[Value.ref sb] c code 8 R_La V) (hX : va_X sb LL xs s s.heap) (hbl : sb < s.heap.size) (hXJ : XJ s) (hfl : l.flags = flags0) (hL : LL ≤ 2561) (hiL : ti + 5 ≤ LL) (hcl : cells + 1 ≤ 601024) (hsl : slots + 6 ≤ 7293000) (y : Int32) (hb : inR y (nI nY) = false) (hY_ : nY_ ≤ 12) (hb_ : inR y (nI nY_) = false) (hx1 : xs (ti + 1) = y)  (kk : gg p l e room_1 s m #[Value.ref sb] below meth c 8 (lw_Z below #[Value.ref sb] s) (cells + 1) (slots + 6) (gW V (fun q => s.heap.size ≤ q) s.heap (wG V oa ad r1 r2 r3 am ou nY ix bu np st sr sx tk rn sh sn yw nw yo ce wo po ne cs sv mk sp rs bg dp 1 nY_ ix_ bu_ np_ st_ sr_ go_ ca_ nw_ yo_ ce_ wo_ po_ ne_ sv_ cl_ mk_ bg_ dp_ sh_ nx_ spn_)) [(4, .int (nI ti)), (3, .ref oa), (2, .ref (am 0)), (1, .ref (ad 0)), (0, .ref sb)] 1527 []) : gg p l e room_1 s m #[Value.ref sb] below meth c 8 (lw_Z below #[Value.ref sb] s) cells slots (gW V (fun q => s.heap.size ≤ q) s.heap (wG V oa ad r1 r2 r3 am ou nY ix bu np st sr sx tk rn sh sn yw nw yo ce wo po ne cs sv mk sp rs bg dp th_ nY_ ix_ bu_ np_ st_ sr_ go_ ca_ nw_ yo_ ce_ wo_ po_ ne_ sv_ cl_ mk_ bg_ dp_ sh_ nx_ spn_)) [(4, .int (nI ti)), (3, .ref oa), (2, .ref (am 0)), (1, .ref (ad 0)), (0, .ref sb)] 1158 [] := by
  refine g_aload_n E d_La_law_1158 rfl 3 rfl ?_
  refine g_aload_n E d_La_law_1159 rfl 4 rfl ?_
  refine g_iload E d_La_law_1160 0 rfl ?_
  refine g_iconst (v := nI 1) E d_La_law_1162 (by decide) ?_
  refine g_iadd E d_La_law_1163 ?_
  refine g_topi (nI_add _ _) ?_
  refine g_scr E hX hbl (by omega) (by omega) d_La_law_1164 ?_
  refine g_topi hx1 ?_
  refine g_aload_n E d_La_law_1165 rfl 1 rfl ?_
  refine gbLi (w := wG V oa ad r1 r2 r3 am ou nY ix bu np st sr sx tk rn sh sn yw nw yo ce wo po ne cs sv mk sp rs bg dp th_ nY_ ix_ bu_ np_ st_ sr_ go_ ca_ nw_ yo_ ce_ wo_ po_ ne_ sv_ cl_ mk_ bg_ dp_ sh_ nx_ spn_) (As := [.ref (ad 0), .int y, .ref oa]) (rest := []) E hXJ (fbi (post := wM V am th_ nY_ ix_ bu_ np_ st_ sr_ go_ ca_ nw_ yo_ ce_ wo_ po_ ne_ sv_ cl_ mk_ bg_ dp_ sh_ nx_ spn_) (B_CY_costs l hfl (oa := oa) (ou := ou) y hb)) kc_La_costs kl_La_140 ks_La_costs kn_La kd_La_costs rfl rfl ⟨Nat.le_of_ble_eq_true rfl, Nat.le_of_ble_eq_true rfl⟩ rfl rfl (Nat.le_of_ble_eq_true rfl) ⟨by show _ ≤ 601024; omega, by show _ ≤ 7293000; omega⟩ d_La_law_1166 ?_
  refine g_istore (lv' := [(5, .int (nI 1)), (4, .int (nI ti)), (3, .ref oa), (2, .ref (am 0)), (1, .ref (ad 0)), (0, .ref sb)]) E d_La_law_1169 (by decide) rfl ?_
  refine g_aload_n E d_La_law_1171 rfl 3 rfl ?_
  refine g_aload_n E d_La_law_1172 rfl 5 rfl ?_
  refine g_iload E d_La_law_1173 1 rfl ?_
  refine g_iconst (v := nI 1) E d_La_law_1175 (by decide) ?_
  refine g_iadd E d_La_law_1176 ?_
  refine g_topi (nI_add _ _) ?_
  refine g_scr E hX hbl (by omega) (by omega) d_La_law_1177 ?_
  refine g_topi hx1 ?_
  refine gwVi (w := wG V oa ad r1 r2 r3 am ou nY ix bu np st sr sx tk rn sh sn yw nw yo ce wo po ne cs sv mk sp rs bg dp th_ nY_ ix_ bu_ np_ st_ sr_ go_ ca_ nw_ yo_ ce_ wo_ po_ ne_ sv_ cl_ mk_ bg_ dp_ sh_ nx_ spn_) (w' := wG V oa ad r1 r2 r3 am ou nY ix bu np st sr sx tk rn sh sn yw nw yo ce wo po ne cs sv mk sp rs bg dp 1 nY_ ix_ bu_ np_ st_ sr_ go_ ca_ nw_ yo_ ce_ wo_ po_ ne_ sv_ cl_ mk_ bg_ dp_ sh_ nx_ spn_) (mc := 0) (ms := 0) (As := [.int y]) (rest := []) E (fun _ h => h) 57 wG_am rfl (fi (pre := (oa, aX V ou) :: wC V ad r1 r2 r3 nY ix bu np st sr sx tk rn sh sn yw nw yo ce wo po ne cs sv mk sp rs bg dp) (Y_Mo_costs l y hY_ hb_)) (cs_La_142 E rfl rfl ⟨Nat.le_of_ble_eq_true rfl, Nat.le_of_ble_eq_true rfl⟩) rfl rfl (Nat.le_of_ble_eq_true rfl) ⟨by show _ ≤ 601024; omega, by show _ ≤ 7293000; omega⟩ d_La_law_1178 ?_
  refine g_istore (lv' := [(6, .int (nI 0)), (5, .int (nI 1)), (4, .int (nI ti)), (3, .ref oa), (2, .ref (am 0)), (1, .ref (ad 0)), (0, .ref sb)]) E d_La_law_1181 (by decide) rfl ?_
  refine g_aload_n E d_La_law_1183 rfl 4 rfl ?_
  refine gpVi (As := []) (rest := []) E gO_w 57 wG_am rfl (fpi0 (pre := (oa, aX V ou) :: wC V ad r1 r2 r3 nY ix bu np st sr sx tk rn sh sn yw nw yo ce wo po ne cs sv mk sp rs bg dp) (C_Mo_thrown l)) (cs_La_92 E rfl rfl ⟨Nat.le_of_ble_eq_true rfl, Nat.le_of_ble_eq_true rfl⟩) rfl rfl (Nat.le_of_ble_eq_true rfl) ⟨by show _ ≤ 601024; omega, by show _ ≤ 7293000; omega⟩ d_La_law_1184 ?_
  refine g_iload E d_La_law_1187 1 rfl ?_
  refine g_ncmp_eq E 1194 d_La_law_1189 (by decide) (by omega) (by omega) (fun h1 => ?_) (fun h1 => ?_)
  · refine g_iload E d_La_law_1194 1 rfl ?_
    refine g_nif_ne E 1211 d_La_law_1196 (by decide) (by decide) (fun _ => ?_) (fun h2 => absurd h2 (by decide))
    refine g_goto E 1527 d_La_law_1211 (by decide) ?_
    refine g_lv [2, 3, 4, 5, 6] rfl ?_
    exact kk
  · exact absurd rfl h1

set_option maxHeartbeats 4000000 in
set_option maxRecDepth 100000 in
theorem K_money_x {p : Program} {l : Launch} {e : Env} {s : State} {m : MethodId} {below : List Frame} {meth : Method} {c : Code} {V : gV} {sb LL ti cells slots : Nat} {xs : Nat → Int32} {oa : Nat} {am : Nat → Nat} {ou : Int64} {ad r1 r2 r3 : Nat → Nat} {nY : Nat} {ix bu : Nat → Nat} {np : Nat} {st sr : Nat → Nat} {sx tk : Nat → Nat → Nat} {rn sh sn : Nat → Nat} {yw nw : Nat} {yo ce wo : Nat → Nat} {po ne : Nat → Option Nat} {cs : Nat → Nat} {sv : Nat → Nat → Nat} {mk : Nat} {sp rs : Nat → Int} {bg dp : Nat} {th_ nY_ : Nat} {ix_ bu_ : Nat → Nat} {np_ : Nat} {st_ sr_ go_ ca_ : Nat → Nat} {nw_ : Nat} {yo_ ce_ wo_ : Nat → Nat} {po_ ne_ : Nat → Option Nat} {sv_ : Nat → Nat} {cl_ : Nat → Bool} {mk_ bg_ dp_ : Nat} {sh_ nx_ : Nat → Nat} {spn_ : Int} (E : gE p s m #[Value.ref sb] c code 8 R_La V) (hX : va_X sb LL xs s s.heap) (hbl : sb < s.heap.size) (hXJ : XJ s) (hfl : l.flags = flags0) (hL : LL ≤ 2561) (hiL : ti + 5 ≤ LL) (hcl : cells + 1 ≤ 601024) (hsl : slots + 6 ≤ 7293000) (k v : Int32) (hb : (inB k (nI 0) (nI 1000000000) && inB v (nI 0) (nI 1000000000)) = false) (hb_ : (inB k (nI 0) (nI 1000000000) && inB v (nI 0) (nI 1000000000)) = false) (hx1 : xs (ti + 1) = k) (hx2 : xs (ti + 2) = v)  (kk : gg p l e room_1 s m #[Value.ref sb] below meth c 8 (lw_Z below #[Value.ref sb] s) (cells + 1) (slots + 6) (gW V (fun q => s.heap.size ≤ q) s.heap (wG V oa ad r1 r2 r3 am ou nY ix bu np st sr sx tk rn sh sn yw nw yo ce wo po ne cs sv mk sp rs bg dp 1 nY_ ix_ bu_ np_ st_ sr_ go_ ca_ nw_ yo_ ce_ wo_ po_ ne_ sv_ cl_ mk_ bg_ dp_ sh_ nx_ spn_)) [(4, .int (nI ti)), (3, .ref oa), (2, .ref (am 0)), (1, .ref (ad 0)), (0, .ref sb)] 1527 []) : gg p l e room_1 s m #[Value.ref sb] below meth c 8 (lw_Z below #[Value.ref sb] s) cells slots (gW V (fun q => s.heap.size ≤ q) s.heap (wG V oa ad r1 r2 r3 am ou nY ix bu np st sr sx tk rn sh sn yw nw yo ce wo po ne cs sv mk sp rs bg dp th_ nY_ ix_ bu_ np_ st_ sr_ go_ ca_ nw_ yo_ ce_ wo_ po_ ne_ sv_ cl_ mk_ bg_ dp_ sh_ nx_ spn_)) [(4, .int (nI ti)), (3, .ref oa), (2, .ref (am 0)), (1, .ref (ad 0)), (0, .ref sb)] 1239 [] := by
  refine g_aload_n E d_La_law_1239 rfl 3 rfl ?_
  refine g_aload_n E d_La_law_1240 rfl 4 rfl ?_
  refine g_iload E d_La_law_1241 0 rfl ?_
  refine g_iconst (v := nI 1) E d_La_law_1243 (by decide) ?_
  refine g_iadd E d_La_law_1244 ?_
  refine g_topi (nI_add _ _) ?_
  refine g_scr E hX hbl (by omega) (by omega) d_La_law_1245 ?_
  refine g_topi hx1 ?_
  refine g_aload_n E d_La_law_1246 rfl 4 rfl ?_
  refine g_iload E d_La_law_1247 0 rfl ?_
  refine g_iconst (v := nI 2) E d_La_law_1249 (by decide) ?_
  refine g_iadd E d_La_law_1250 ?_
  refine g_topi (nI_add _ _) ?_
  refine g_scr E hX hbl (by omega) (by omega) d_La_law_1251 ?_
  refine g_topi hx2 ?_
  refine gbLi (w := wG V oa ad r1 r2 r3 am ou nY ix bu np st sr sx tk rn sh sn yw nw yo ce wo po ne cs sv mk sp rs bg dp th_ nY_ ix_ bu_ np_ st_ sr_ go_ ca_ nw_ yo_ ce_ wo_ po_ ne_ sv_ cl_ mk_ bg_ dp_ sh_ nx_ spn_) (As := [.ref (ad 0), .int k, .int v]) (rest := []) E hXJ (fbi (post := wM V am th_ nY_ ix_ bu_ np_ st_ sr_ go_ ca_ nw_ yo_ ce_ wo_ po_ ne_ sv_ cl_ mk_ bg_ dp_ sh_ nx_ spn_) (B_CY_money l hfl (oa := oa) (ou := ou) k v hb)) kc_La_money kl_La_147 ks_La_money kn_La kd_La_money rfl rfl ⟨Nat.le_of_ble_eq_true rfl, Nat.le_of_ble_eq_true rfl⟩ rfl rfl (Nat.le_of_ble_eq_true rfl) ⟨by show _ ≤ 601024; omega, by show _ ≤ 7293000; omega⟩ d_La_law_1252 ?_
  refine g_istore (lv' := [(5, .int (nI 1)), (4, .int (nI ti)), (3, .ref oa), (2, .ref (am 0)), (1, .ref (ad 0)), (0, .ref sb)]) E d_La_law_1255 (by decide) rfl ?_
  refine g_aload_n E d_La_law_1257 rfl 3 rfl ?_
  refine g_aload_n E d_La_law_1258 rfl 5 rfl ?_
  refine g_iload E d_La_law_1259 1 rfl ?_
  refine g_iconst (v := nI 1) E d_La_law_1261 (by decide) ?_
  refine g_iadd E d_La_law_1262 ?_
  refine g_topi (nI_add _ _) ?_
  refine g_scr E hX hbl (by omega) (by omega) d_La_law_1263 ?_
  refine g_topi hx1 ?_
  refine g_aload_n E d_La_law_1264 rfl 5 rfl ?_
  refine g_iload E d_La_law_1265 1 rfl ?_
  refine g_iconst (v := nI 2) E d_La_law_1267 (by decide) ?_
  refine g_iadd E d_La_law_1268 ?_
  refine g_topi (nI_add _ _) ?_
  refine g_scr E hX hbl (by omega) (by omega) d_La_law_1269 ?_
  refine g_topi hx2 ?_
  refine gwVv (w := wG V oa ad r1 r2 r3 am ou nY ix bu np st sr sx tk rn sh sn yw nw yo ce wo po ne cs sv mk sp rs bg dp th_ nY_ ix_ bu_ np_ st_ sr_ go_ ca_ nw_ yo_ ce_ wo_ po_ ne_ sv_ cl_ mk_ bg_ dp_ sh_ nx_ spn_) (w' := wG V oa ad r1 r2 r3 am ou nY ix bu np st sr sx tk rn sh sn yw nw yo ce wo po ne cs sv mk sp rs bg dp 1 nY_ ix_ bu_ np_ st_ sr_ go_ ca_ nw_ yo_ ce_ wo_ po_ ne_ sv_ cl_ mk_ bg_ dp_ sh_ nx_ spn_) (mc := 0) (ms := 0) (As := [.int k, .int v]) (rest := []) E (fun _ h => h) 57 wG_am rfl (fv (pre := (oa, aX V ou) :: wC V ad r1 r2 r3 nY ix bu np st sr sx tk rn sh sn yw nw yo ce wo po ne cs sv mk sp rs bg dp) (Y_Mo_money l k v hb_)) (cs_La_150 E rfl rfl ⟨Nat.le_of_ble_eq_true rfl, Nat.le_of_ble_eq_true rfl⟩) rfl rfl (Nat.le_of_ble_eq_true rfl) ⟨by show _ ≤ 601024; omega, by show _ ≤ 7293000; omega⟩ d_La_law_1270 ?_
  refine g_aload_n E d_La_law_1273 rfl 3 rfl ?_
  refine gpVi (As := []) (rest := []) E gO_w 57 wG_am rfl (fpi0 (pre := (oa, aX V ou) :: wC V ad r1 r2 r3 nY ix bu np st sr sx tk rn sh sn yw nw yo ce wo po ne cs sv mk sp rs bg dp) (C_Mo_thrown l)) (cs_La_92 E rfl rfl ⟨Nat.le_of_ble_eq_true rfl, Nat.le_of_ble_eq_true rfl⟩) rfl rfl (Nat.le_of_ble_eq_true rfl) ⟨by show _ ≤ 601024; omega, by show _ ≤ 7293000; omega⟩ d_La_law_1274 ?_
  refine g_iload E d_La_law_1277 0 rfl ?_
  refine g_ncmp_eq E 1284 d_La_law_1279 (by decide) (by omega) (by omega) (fun h1 => ?_) (fun h1 => ?_)
  · refine g_goto E 1527 d_La_law_1284 (by decide) ?_
    refine g_lv [1, 2, 3, 4, 5] rfl ?_
    exact kk
  · exact absurd rfl h1

set_option maxHeartbeats 4000000 in
set_option maxRecDepth 100000 in
theorem K_reserve_x {p : Program} {l : Launch} {e : Env} {s : State} {m : MethodId} {below : List Frame} {meth : Method} {c : Code} {V : gV} {sb LL ti cells slots : Nat} {xs : Nat → Int32} {oa : Nat} {am : Nat → Nat} {ou : Int64} {ad r1 r2 r3 : Nat → Nat} {nY : Nat} {ix bu : Nat → Nat} {np : Nat} {st sr : Nat → Nat} {sx tk : Nat → Nat → Nat} {rn sh sn : Nat → Nat} {yw nw : Nat} {yo ce wo : Nat → Nat} {po ne : Nat → Option Nat} {cs : Nat → Nat} {sv : Nat → Nat → Nat} {mk : Nat} {sp rs : Nat → Int} {bg dp : Nat} {th_ nY_ : Nat} {ix_ bu_ : Nat → Nat} {np_ : Nat} {st_ sr_ go_ ca_ : Nat → Nat} {nw_ : Nat} {yo_ ce_ wo_ : Nat → Nat} {po_ ne_ : Nat → Option Nat} {sv_ : Nat → Nat} {cl_ : Nat → Bool} {mk_ bg_ dp_ : Nat} {sh_ nx_ : Nat → Nat} {spn_ : Int} (E : gE p s m #[Value.ref sb] c code 8 R_La V) (hX : va_X sb LL xs s s.heap) (hbl : sb < s.heap.size) (hXJ : XJ s) (hfl : l.flags = flags0) (hL : LL ≤ 2561) (hiL : ti + 5 ≤ LL) (hcl : cells + 1 ≤ 601024) (hsl : slots + 6 ≤ 7293000) (y : Int32) (hb : inR y (nI nY) = false) (hY_ : nY_ ≤ 12) (hb_ : inR y (nI nY_) = false) (hx1 : xs (ti + 1) = y)  (kk : gg p l e room_1 s m #[Value.ref sb] below meth c 8 (lw_Z below #[Value.ref sb] s) (cells + 1) (slots + 6) (gW V (fun q => s.heap.size ≤ q) s.heap (wG V oa ad r1 r2 r3 am ou nY ix bu np st sr sx tk rn sh sn yw nw yo ce wo po ne cs sv mk sp rs bg dp 1 nY_ ix_ bu_ np_ st_ sr_ go_ ca_ nw_ yo_ ce_ wo_ po_ ne_ sv_ cl_ mk_ bg_ dp_ sh_ nx_ spn_)) [(4, .int (nI ti)), (3, .ref oa), (2, .ref (am 0)), (1, .ref (ad 0)), (0, .ref sb)] 1527 []) : gg p l e room_1 s m #[Value.ref sb] below meth c 8 (lw_Z below #[Value.ref sb] s) cells slots (gW V (fun q => s.heap.size ≤ q) s.heap (wG V oa ad r1 r2 r3 am ou nY ix bu np st sr sx tk rn sh sn yw nw yo ce wo po ne cs sv mk sp rs bg dp th_ nY_ ix_ bu_ np_ st_ sr_ go_ ca_ nw_ yo_ ce_ wo_ po_ ne_ sv_ cl_ mk_ bg_ dp_ sh_ nx_ spn_)) [(4, .int (nI ti)), (3, .ref oa), (2, .ref (am 0)), (1, .ref (ad 0)), (0, .ref sb)] 1287 [] := by
  refine g_aload_n E d_La_law_1287 rfl 3 rfl ?_
  refine g_aload_n E d_La_law_1288 rfl 4 rfl ?_
  refine g_iload E d_La_law_1289 0 rfl ?_
  refine g_iconst (v := nI 1) E d_La_law_1291 (by decide) ?_
  refine g_iadd E d_La_law_1292 ?_
  refine g_topi (nI_add _ _) ?_
  refine g_scr E hX hbl (by omega) (by omega) d_La_law_1293 ?_
  refine g_topi hx1 ?_
  refine g_aload_n E d_La_law_1294 rfl 1 rfl ?_
  refine gbLi (w := wG V oa ad r1 r2 r3 am ou nY ix bu np st sr sx tk rn sh sn yw nw yo ce wo po ne cs sv mk sp rs bg dp th_ nY_ ix_ bu_ np_ st_ sr_ go_ ca_ nw_ yo_ ce_ wo_ po_ ne_ sv_ cl_ mk_ bg_ dp_ sh_ nx_ spn_) (As := [.ref (ad 0), .int y, .ref oa]) (rest := []) E hXJ (fbi (post := wM V am th_ nY_ ix_ bu_ np_ st_ sr_ go_ ca_ nw_ yo_ ce_ wo_ po_ ne_ sv_ cl_ mk_ bg_ dp_ sh_ nx_ spn_) (B_CY_reserve l hfl (oa := oa) (ou := ou) y hb)) kc_La_reserve kl_La_151 ks_La_reserve kn_La kd_La_reserve rfl rfl ⟨Nat.le_of_ble_eq_true rfl, Nat.le_of_ble_eq_true rfl⟩ rfl rfl (Nat.le_of_ble_eq_true rfl) ⟨by show _ ≤ 601024; omega, by show _ ≤ 7293000; omega⟩ d_La_law_1295 ?_
  refine g_istore (lv' := [(5, .int (nI 1)), (4, .int (nI ti)), (3, .ref oa), (2, .ref (am 0)), (1, .ref (ad 0)), (0, .ref sb)]) E d_La_law_1298 (by decide) rfl ?_
  refine g_aload_n E d_La_law_1300 rfl 3 rfl ?_
  refine g_aload_n E d_La_law_1301 rfl 5 rfl ?_
  refine g_iload E d_La_law_1302 1 rfl ?_
  refine g_iconst (v := nI 1) E d_La_law_1304 (by decide) ?_
  refine g_iadd E d_La_law_1305 ?_
  refine g_topi (nI_add _ _) ?_
  refine g_scr E hX hbl (by omega) (by omega) d_La_law_1306 ?_
  refine g_topi hx1 ?_
  refine gwVl (w := wG V oa ad r1 r2 r3 am ou nY ix bu np st sr sx tk rn sh sn yw nw yo ce wo po ne cs sv mk sp rs bg dp th_ nY_ ix_ bu_ np_ st_ sr_ go_ ca_ nw_ yo_ ce_ wo_ po_ ne_ sv_ cl_ mk_ bg_ dp_ sh_ nx_ spn_) (w' := wG V oa ad r1 r2 r3 am ou nY ix bu np st sr sx tk rn sh sn yw nw yo ce wo po ne cs sv mk sp rs bg dp 1 nY_ ix_ bu_ np_ st_ sr_ go_ ca_ nw_ yo_ ce_ wo_ po_ ne_ sv_ cl_ mk_ bg_ dp_ sh_ nx_ spn_) (mc := 0) (ms := 0) (As := [.int y]) (rest := []) E (fun _ h => h) 57 wG_am rfl (fl (pre := (oa, aX V ou) :: wC V ad r1 r2 r3 nY ix bu np st sr sx tk rn sh sn yw nw yo ce wo po ne cs sv mk sp rs bg dp) (Y_Mo_reserve l y hY_ hb_)) (cs_La_153 E rfl rfl ⟨Nat.le_of_ble_eq_true rfl, Nat.le_of_ble_eq_true rfl⟩) rfl rfl (Nat.le_of_ble_eq_true rfl) ⟨by show _ ≤ 601024; omega, by show _ ≤ 7293000; omega⟩ d_La_law_1307 ?_
  refine g_lstore (lv' := [(6, .long (lN 0)), (5, .int (nI 1)), (4, .int (nI ti)), (3, .ref oa), (2, .ref (am 0)), (1, .ref (ad 0)), (0, .ref sb)]) E d_La_law_1310 (by decide) rfl ?_
  refine g_aload_n E d_La_law_1312 rfl 4 rfl ?_
  refine gpVi (As := []) (rest := []) E gO_w 57 wG_am rfl (fpi0 (pre := (oa, aX V ou) :: wC V ad r1 r2 r3 nY ix bu np st sr sx tk rn sh sn yw nw yo ce wo po ne cs sv mk sp rs bg dp) (C_Mo_thrown l)) (cs_La_92 E rfl rfl ⟨Nat.le_of_ble_eq_true rfl, Nat.le_of_ble_eq_true rfl⟩) rfl rfl (Nat.le_of_ble_eq_true rfl) ⟨by show _ ≤ 601024; omega, by show _ ≤ 7293000; omega⟩ d_La_law_1313 ?_
  refine g_iload E d_La_law_1316 1 rfl ?_
  refine g_ncmp_eq E 1323 d_La_law_1318 (by decide) (by omega) (by omega) (fun h1 => ?_) (fun h1 => ?_)
  · refine g_iload E d_La_law_1323 1 rfl ?_
    refine g_nif_ne E 1339 d_La_law_1325 (by decide) (by decide) (fun _ => ?_) (fun h2 => absurd h2 (by decide))
    refine g_goto E 1527 d_La_law_1339 (by decide) ?_
    refine g_lv [2, 3, 4, 5, 6] rfl ?_
    exact kk
  · exact absurd rfl h1

set_option maxHeartbeats 4000000 in
set_option maxRecDepth 100000 in
theorem K_payment_x {p : Program} {l : Launch} {e : Env} {s : State} {m : MethodId} {below : List Frame} {meth : Method} {c : Code} {V : gV} {sb LL ti cells slots : Nat} {xs : Nat → Int32} {oa : Nat} {am : Nat → Nat} {ou : Int64} {ad r1 r2 r3 : Nat → Nat} {nY : Nat} {ix bu : Nat → Nat} {np : Nat} {st sr : Nat → Nat} {sx tk : Nat → Nat → Nat} {rn sh sn : Nat → Nat} {yw nw : Nat} {yo ce wo : Nat → Nat} {po ne : Nat → Option Nat} {cs : Nat → Nat} {sv : Nat → Nat → Nat} {mk : Nat} {sp rs : Nat → Int} {bg dp : Nat} {th_ nY_ : Nat} {ix_ bu_ : Nat → Nat} {np_ : Nat} {st_ sr_ go_ ca_ : Nat → Nat} {nw_ : Nat} {yo_ ce_ wo_ : Nat → Nat} {po_ ne_ : Nat → Option Nat} {sv_ : Nat → Nat} {cl_ : Nat → Bool} {mk_ bg_ dp_ : Nat} {sh_ nx_ : Nat → Nat} {spn_ : Int} (E : gE p s m #[Value.ref sb] c code 8 R_La V) (hX : va_X sb LL xs s s.heap) (hbl : sb < s.heap.size) (hXJ : XJ s) (hfl : l.flags = flags0) (hL : LL ≤ 2561) (hiL : ti + 5 ≤ LL) (hcl : cells + 1 ≤ 601024) (hsl : slots + 6 ≤ 7293000) (x y z : Int32) (hb : isL x y z = false) (hb_ : isL x y z = false) (hx1 : xs (ti + 1) = x) (hx2 : xs (ti + 2) = y) (hx3 : xs (ti + 3) = z)  (kk : gg p l e room_1 s m #[Value.ref sb] below meth c 8 (lw_Z below #[Value.ref sb] s) (cells + 1) (slots + 6) (gW V (fun q => s.heap.size ≤ q) s.heap (wG V oa ad r1 r2 r3 am ou nY ix bu np st sr sx tk rn sh sn yw nw yo ce wo po ne cs sv mk sp rs bg dp 1 nY_ ix_ bu_ np_ st_ sr_ go_ ca_ nw_ yo_ ce_ wo_ po_ ne_ sv_ cl_ mk_ bg_ dp_ sh_ nx_ spn_)) [(4, .int (nI ti)), (3, .ref oa), (2, .ref (am 0)), (1, .ref (ad 0)), (0, .ref sb)] 1527 []) : gg p l e room_1 s m #[Value.ref sb] below meth c 8 (lw_Z below #[Value.ref sb] s) cells slots (gW V (fun q => s.heap.size ≤ q) s.heap (wG V oa ad r1 r2 r3 am ou nY ix bu np st sr sx tk rn sh sn yw nw yo ce wo po ne cs sv mk sp rs bg dp th_ nY_ ix_ bu_ np_ st_ sr_ go_ ca_ nw_ yo_ ce_ wo_ po_ ne_ sv_ cl_ mk_ bg_ dp_ sh_ nx_ spn_)) [(4, .int (nI ti)), (3, .ref oa), (2, .ref (am 0)), (1, .ref (ad 0)), (0, .ref sb)] 1355 [] := by
  refine g_aload_n E d_La_law_1355 rfl 3 rfl ?_
  refine g_aload_n E d_La_law_1356 rfl 4 rfl ?_
  refine g_iload E d_La_law_1357 0 rfl ?_
  refine g_iconst (v := nI 1) E d_La_law_1359 (by decide) ?_
  refine g_iadd E d_La_law_1360 ?_
  refine g_topi (nI_add _ _) ?_
  refine g_scr E hX hbl (by omega) (by omega) d_La_law_1361 ?_
  refine g_topi hx1 ?_
  refine g_aload_n E d_La_law_1362 rfl 4 rfl ?_
  refine g_iload E d_La_law_1363 0 rfl ?_
  refine g_iconst (v := nI 2) E d_La_law_1365 (by decide) ?_
  refine g_iadd E d_La_law_1366 ?_
  refine g_topi (nI_add _ _) ?_
  refine g_scr E hX hbl (by omega) (by omega) d_La_law_1367 ?_
  refine g_topi hx2 ?_
  refine g_aload_n E d_La_law_1368 rfl 4 rfl ?_
  refine g_iload E d_La_law_1369 0 rfl ?_
  refine g_iconst (v := nI 3) E d_La_law_1371 (by decide) ?_
  refine g_iadd E d_La_law_1372 ?_
  refine g_topi (nI_add _ _) ?_
  refine g_scr E hX hbl (by omega) (by omega) d_La_law_1373 ?_
  refine g_topi hx3 ?_
  refine g_aload_n E d_La_law_1374 rfl 1 rfl ?_
  refine gbLi (w := wG V oa ad r1 r2 r3 am ou nY ix bu np st sr sx tk rn sh sn yw nw yo ce wo po ne cs sv mk sp rs bg dp th_ nY_ ix_ bu_ np_ st_ sr_ go_ ca_ nw_ yo_ ce_ wo_ po_ ne_ sv_ cl_ mk_ bg_ dp_ sh_ nx_ spn_) (As := [.ref (ad 0), .int x, .int y, .int z, .ref oa]) (rest := []) E hXJ (fbi (post := wM V am th_ nY_ ix_ bu_ np_ st_ sr_ go_ ca_ nw_ yo_ ce_ wo_ po_ ne_ sv_ cl_ mk_ bg_ dp_ sh_ nx_ spn_) (B_CY_payment l hfl (oa := oa) (ou := ou) x y z hb)) kc_La_payment kl_La_158 ks_La_payment kn_La kd_La_payment rfl rfl ⟨Nat.le_of_ble_eq_true rfl, Nat.le_of_ble_eq_true rfl⟩ rfl rfl (Nat.le_of_ble_eq_true rfl) ⟨by show _ ≤ 601024; omega, by show _ ≤ 7293000; omega⟩ d_La_law_1375 ?_
  refine g_istore (lv' := [(5, .int (nI 1)), (4, .int (nI ti)), (3, .ref oa), (2, .ref (am 0)), (1, .ref (ad 0)), (0, .ref sb)]) E d_La_law_1378 (by decide) rfl ?_
  refine g_aload_n E d_La_law_1380 rfl 3 rfl ?_
  refine g_aload_n E d_La_law_1381 rfl 5 rfl ?_
  refine g_iload E d_La_law_1382 1 rfl ?_
  refine g_iconst (v := nI 1) E d_La_law_1384 (by decide) ?_
  refine g_iadd E d_La_law_1385 ?_
  refine g_topi (nI_add _ _) ?_
  refine g_scr E hX hbl (by omega) (by omega) d_La_law_1386 ?_
  refine g_topi hx1 ?_
  refine g_aload_n E d_La_law_1387 rfl 5 rfl ?_
  refine g_iload E d_La_law_1388 1 rfl ?_
  refine g_iconst (v := nI 2) E d_La_law_1390 (by decide) ?_
  refine g_iadd E d_La_law_1391 ?_
  refine g_topi (nI_add _ _) ?_
  refine g_scr E hX hbl (by omega) (by omega) d_La_law_1392 ?_
  refine g_topi hx2 ?_
  refine g_aload_n E d_La_law_1393 rfl 5 rfl ?_
  refine g_iload E d_La_law_1394 1 rfl ?_
  refine g_iconst (v := nI 3) E d_La_law_1396 (by decide) ?_
  refine g_iadd E d_La_law_1397 ?_
  refine g_topi (nI_add _ _) ?_
  refine g_scr E hX hbl (by omega) (by omega) d_La_law_1398 ?_
  refine g_topi hx3 ?_
  refine gwVi (w := wG V oa ad r1 r2 r3 am ou nY ix bu np st sr sx tk rn sh sn yw nw yo ce wo po ne cs sv mk sp rs bg dp th_ nY_ ix_ bu_ np_ st_ sr_ go_ ca_ nw_ yo_ ce_ wo_ po_ ne_ sv_ cl_ mk_ bg_ dp_ sh_ nx_ spn_) (w' := wG V oa ad r1 r2 r3 am ou nY ix bu np st sr sx tk rn sh sn yw nw yo ce wo po ne cs sv mk sp rs bg dp 1 nY_ ix_ bu_ np_ st_ sr_ go_ ca_ nw_ yo_ ce_ wo_ po_ ne_ sv_ cl_ mk_ bg_ dp_ sh_ nx_ spn_) (mc := 0) (ms := 0) (As := [.int x, .int y, .int z]) (rest := []) E (fun _ h => h) 57 wG_am rfl (fi (pre := (oa, aX V ou) :: wC V ad r1 r2 r3 nY ix bu np st sr sx tk rn sh sn yw nw yo ce wo po ne cs sv mk sp rs bg dp) (Y_Mo_payment l x y z hb_)) (cs_La_160 E rfl rfl ⟨Nat.le_of_ble_eq_true rfl, Nat.le_of_ble_eq_true rfl⟩) rfl rfl (Nat.le_of_ble_eq_true rfl) ⟨by show _ ≤ 601024; omega, by show _ ≤ 7293000; omega⟩ d_La_law_1399 ?_
  refine g_istore (lv' := [(6, .int (nI 0)), (5, .int (nI 1)), (4, .int (nI ti)), (3, .ref oa), (2, .ref (am 0)), (1, .ref (ad 0)), (0, .ref sb)]) E d_La_law_1402 (by decide) rfl ?_
  refine g_aload_n E d_La_law_1404 rfl 4 rfl ?_
  refine gpVi (As := []) (rest := []) E gO_w 57 wG_am rfl (fpi0 (pre := (oa, aX V ou) :: wC V ad r1 r2 r3 nY ix bu np st sr sx tk rn sh sn yw nw yo ce wo po ne cs sv mk sp rs bg dp) (C_Mo_thrown l)) (cs_La_92 E rfl rfl ⟨Nat.le_of_ble_eq_true rfl, Nat.le_of_ble_eq_true rfl⟩) rfl rfl (Nat.le_of_ble_eq_true rfl) ⟨by show _ ≤ 601024; omega, by show _ ≤ 7293000; omega⟩ d_La_law_1405 ?_
  refine g_iload E d_La_law_1408 1 rfl ?_
  refine g_ncmp_eq E 1415 d_La_law_1410 (by decide) (by omega) (by omega) (fun h1 => ?_) (fun h1 => ?_)
  · refine g_iload E d_La_law_1415 1 rfl ?_
    refine g_nif_ne E 1432 d_La_law_1417 (by decide) (by decide) (fun _ => ?_) (fun h2 => absurd h2 (by decide))
    refine g_goto E 1527 d_La_law_1432 (by decide) ?_
    refine g_lv [2, 3, 4, 5, 6] rfl ?_
    exact kk
  · exact absurd rfl h1

set_option maxHeartbeats 4000000 in
set_option maxRecDepth 100000 in
theorem K_rest_x {p : Program} {l : Launch} {e : Env} {s : State} {m : MethodId} {below : List Frame} {meth : Method} {c : Code} {V : gV} {sb LL ti cells slots : Nat} {xs : Nat → Int32} {oa : Nat} {am : Nat → Nat} {ou : Int64} {ad r1 r2 r3 : Nat → Nat} {nY : Nat} {ix bu : Nat → Nat} {np : Nat} {st sr : Nat → Nat} {sx tk : Nat → Nat → Nat} {rn sh sn : Nat → Nat} {yw nw : Nat} {yo ce wo : Nat → Nat} {po ne : Nat → Option Nat} {cs : Nat → Nat} {sv : Nat → Nat → Nat} {mk : Nat} {sp rs : Nat → Int} {bg dp : Nat} {th_ nY_ : Nat} {ix_ bu_ : Nat → Nat} {np_ : Nat} {st_ sr_ go_ ca_ : Nat → Nat} {nw_ : Nat} {yo_ ce_ wo_ : Nat → Nat} {po_ ne_ : Nat → Option Nat} {sv_ : Nat → Nat} {cl_ : Nat → Bool} {mk_ bg_ dp_ : Nat} {sh_ nx_ : Nat → Nat} {spn_ : Int} (E : gE p s m #[Value.ref sb] c code 8 R_La V) (hX : va_X sb LL xs s s.heap) (hbl : sb < s.heap.size) (hXJ : XJ s) (hfl : l.flags = flags0) (hL : LL ≤ 2561) (hiL : ti + 5 ≤ LL) (hcl : cells + 1 ≤ 601024) (hsl : slots + 6 ≤ 7293000) (x y z t : Int32) (hb : (isL x y z && inB t (nI 0) z) = false) (hb_ : (isL x y z && inB t (nI 0) z) = false) (hx1 : xs (ti + 1) = x) (hx2 : xs (ti + 2) = y) (hx3 : xs (ti + 3) = z) (hx4 : xs (ti + 4) = t)  (kk : gg p l e room_1 s m #[Value.ref sb] below meth c 8 (lw_Z below #[Value.ref sb] s) (cells + 1) (slots + 6) (gW V (fun q => s.heap.size ≤ q) s.heap (wG V oa ad r1 r2 r3 am ou nY ix bu np st sr sx tk rn sh sn yw nw yo ce wo po ne cs sv mk sp rs bg dp 1 nY_ ix_ bu_ np_ st_ sr_ go_ ca_ nw_ yo_ ce_ wo_ po_ ne_ sv_ cl_ mk_ bg_ dp_ sh_ nx_ spn_)) [(4, .int (nI ti)), (3, .ref oa), (2, .ref (am 0)), (1, .ref (ad 0)), (0, .ref sb)] 1527 []) : gg p l e room_1 s m #[Value.ref sb] below meth c 8 (lw_Z below #[Value.ref sb] s) cells slots (gW V (fun q => s.heap.size ≤ q) s.heap (wG V oa ad r1 r2 r3 am ou nY ix bu np st sr sx tk rn sh sn yw nw yo ce wo po ne cs sv mk sp rs bg dp th_ nY_ ix_ bu_ np_ st_ sr_ go_ ca_ nw_ yo_ ce_ wo_ po_ ne_ sv_ cl_ mk_ bg_ dp_ sh_ nx_ spn_)) [(4, .int (nI ti)), (3, .ref oa), (2, .ref (am 0)), (1, .ref (ad 0)), (0, .ref sb)] 1435 [] := by
  refine g_aload_n E d_La_law_1435 rfl 3 rfl ?_
  refine g_aload_n E d_La_law_1436 rfl 4 rfl ?_
  refine g_iload E d_La_law_1437 0 rfl ?_
  refine g_iconst (v := nI 1) E d_La_law_1439 (by decide) ?_
  refine g_iadd E d_La_law_1440 ?_
  refine g_topi (nI_add _ _) ?_
  refine g_scr E hX hbl (by omega) (by omega) d_La_law_1441 ?_
  refine g_topi hx1 ?_
  refine g_aload_n E d_La_law_1442 rfl 4 rfl ?_
  refine g_iload E d_La_law_1443 0 rfl ?_
  refine g_iconst (v := nI 2) E d_La_law_1445 (by decide) ?_
  refine g_iadd E d_La_law_1446 ?_
  refine g_topi (nI_add _ _) ?_
  refine g_scr E hX hbl (by omega) (by omega) d_La_law_1447 ?_
  refine g_topi hx2 ?_
  refine g_aload_n E d_La_law_1448 rfl 4 rfl ?_
  refine g_iload E d_La_law_1449 0 rfl ?_
  refine g_iconst (v := nI 3) E d_La_law_1451 (by decide) ?_
  refine g_iadd E d_La_law_1452 ?_
  refine g_topi (nI_add _ _) ?_
  refine g_scr E hX hbl (by omega) (by omega) d_La_law_1453 ?_
  refine g_topi hx3 ?_
  refine g_aload_n E d_La_law_1454 rfl 4 rfl ?_
  refine g_iload E d_La_law_1455 0 rfl ?_
  refine g_iconst (v := nI 4) E d_La_law_1457 (by decide) ?_
  refine g_iadd E d_La_law_1458 ?_
  refine g_topi (nI_add _ _) ?_
  refine g_scr E hX hbl (by omega) (by omega) d_La_law_1459 ?_
  refine g_topi hx4 ?_
  refine g_aload_n E d_La_law_1460 rfl 1 rfl ?_
  refine gbLi (w := wG V oa ad r1 r2 r3 am ou nY ix bu np st sr sx tk rn sh sn yw nw yo ce wo po ne cs sv mk sp rs bg dp th_ nY_ ix_ bu_ np_ st_ sr_ go_ ca_ nw_ yo_ ce_ wo_ po_ ne_ sv_ cl_ mk_ bg_ dp_ sh_ nx_ spn_) (As := [.ref (ad 0), .int x, .int y, .int z, .int t, .ref oa]) (rest := []) E hXJ (fbi (post := wM V am th_ nY_ ix_ bu_ np_ st_ sr_ go_ ca_ nw_ yo_ ce_ wo_ po_ ne_ sv_ cl_ mk_ bg_ dp_ sh_ nx_ spn_) (B_CY_rest l hfl (oa := oa) (ou := ou) x y z t hb)) kc_La_rest kl_La_161 ks_La_rest kn_La kd_La_rest rfl rfl ⟨Nat.le_of_ble_eq_true rfl, Nat.le_of_ble_eq_true rfl⟩ rfl rfl (Nat.le_of_ble_eq_true rfl) ⟨by show _ ≤ 601024; omega, by show _ ≤ 7293000; omega⟩ d_La_law_1461 ?_
  refine g_istore (lv' := [(5, .int (nI 1)), (4, .int (nI ti)), (3, .ref oa), (2, .ref (am 0)), (1, .ref (ad 0)), (0, .ref sb)]) E d_La_law_1464 (by decide) rfl ?_
  refine g_aload_n E d_La_law_1466 rfl 3 rfl ?_
  refine g_aload_n E d_La_law_1467 rfl 5 rfl ?_
  refine g_iload E d_La_law_1468 1 rfl ?_
  refine g_iconst (v := nI 1) E d_La_law_1470 (by decide) ?_
  refine g_iadd E d_La_law_1471 ?_
  refine g_topi (nI_add _ _) ?_
  refine g_scr E hX hbl (by omega) (by omega) d_La_law_1472 ?_
  refine g_topi hx1 ?_
  refine g_aload_n E d_La_law_1473 rfl 5 rfl ?_
  refine g_iload E d_La_law_1474 1 rfl ?_
  refine g_iconst (v := nI 2) E d_La_law_1476 (by decide) ?_
  refine g_iadd E d_La_law_1477 ?_
  refine g_topi (nI_add _ _) ?_
  refine g_scr E hX hbl (by omega) (by omega) d_La_law_1478 ?_
  refine g_topi hx2 ?_
  refine g_aload_n E d_La_law_1479 rfl 5 rfl ?_
  refine g_iload E d_La_law_1480 1 rfl ?_
  refine g_iconst (v := nI 3) E d_La_law_1482 (by decide) ?_
  refine g_iadd E d_La_law_1483 ?_
  refine g_topi (nI_add _ _) ?_
  refine g_scr E hX hbl (by omega) (by omega) d_La_law_1484 ?_
  refine g_topi hx3 ?_
  refine g_aload_n E d_La_law_1485 rfl 5 rfl ?_
  refine g_iload E d_La_law_1486 1 rfl ?_
  refine g_iconst (v := nI 4) E d_La_law_1488 (by decide) ?_
  refine g_iadd E d_La_law_1489 ?_
  refine g_topi (nI_add _ _) ?_
  refine g_scr E hX hbl (by omega) (by omega) d_La_law_1490 ?_
  refine g_topi hx4 ?_
  refine gwVi (w := wG V oa ad r1 r2 r3 am ou nY ix bu np st sr sx tk rn sh sn yw nw yo ce wo po ne cs sv mk sp rs bg dp th_ nY_ ix_ bu_ np_ st_ sr_ go_ ca_ nw_ yo_ ce_ wo_ po_ ne_ sv_ cl_ mk_ bg_ dp_ sh_ nx_ spn_) (w' := wG V oa ad r1 r2 r3 am ou nY ix bu np st sr sx tk rn sh sn yw nw yo ce wo po ne cs sv mk sp rs bg dp 1 nY_ ix_ bu_ np_ st_ sr_ go_ ca_ nw_ yo_ ce_ wo_ po_ ne_ sv_ cl_ mk_ bg_ dp_ sh_ nx_ spn_) (mc := 0) (ms := 0) (As := [.int x, .int y, .int z, .int t]) (rest := []) E (fun _ h => h) 57 wG_am rfl (fi (pre := (oa, aX V ou) :: wC V ad r1 r2 r3 nY ix bu np st sr sx tk rn sh sn yw nw yo ce wo po ne cs sv mk sp rs bg dp) (Y_Mo_rest l x y z t hb_)) (cs_La_163 E rfl rfl ⟨Nat.le_of_ble_eq_true rfl, Nat.le_of_ble_eq_true rfl⟩) rfl rfl (Nat.le_of_ble_eq_true rfl) ⟨by show _ ≤ 601024; omega, by show _ ≤ 7293000; omega⟩ d_La_law_1491 ?_
  refine g_istore (lv' := [(6, .int (nI 0)), (5, .int (nI 1)), (4, .int (nI ti)), (3, .ref oa), (2, .ref (am 0)), (1, .ref (ad 0)), (0, .ref sb)]) E d_La_law_1494 (by decide) rfl ?_
  refine g_aload_n E d_La_law_1496 rfl 4 rfl ?_
  refine gpVi (As := []) (rest := []) E gO_w 57 wG_am rfl (fpi0 (pre := (oa, aX V ou) :: wC V ad r1 r2 r3 nY ix bu np st sr sx tk rn sh sn yw nw yo ce wo po ne cs sv mk sp rs bg dp) (C_Mo_thrown l)) (cs_La_92 E rfl rfl ⟨Nat.le_of_ble_eq_true rfl, Nat.le_of_ble_eq_true rfl⟩) rfl rfl (Nat.le_of_ble_eq_true rfl) ⟨by show _ ≤ 601024; omega, by show _ ≤ 7293000; omega⟩ d_La_law_1497 ?_
  refine g_iload E d_La_law_1500 1 rfl ?_
  refine g_ncmp_eq E 1507 d_La_law_1502 (by decide) (by omega) (by omega) (fun h1 => ?_) (fun h1 => ?_)
  · refine g_iload E d_La_law_1507 1 rfl ?_
    refine g_nif_ne E 1524 d_La_law_1509 (by decide) (by decide) (fun _ => ?_) (fun h2 => absurd h2 (by decide))
    refine g_goto E 1527 d_La_law_1524 (by decide) ?_
    refine g_lv [2, 3, 4, 5, 6] rfl ?_
    exact kk
  · exact absurd rfl h1
