section
-- ===== PART A: goes FIRST, ahead of the names: the tables' words, and 'selects' of the private methods out of them =====
/-- a private method of a class that the tables say can be made, by its rows of tables_1 -/
def lw_okq (q : MethodName × Nat) : Prop := (q.1.cls ≠ "java/lang/invoke/MethodHandle" ∧ q.1.cls ≠ "java/lang/invoke/VarHandle") ∧ Cond.instantiable q.1.cls q.2 ∈ tables_1 ∧ Cond.privateMethod q.1 ∈ tables_1 ∧ Cond.instanceMethod q.1 ∈ tables_1
theorem lw_p0 : lw_okq (⟨"CostYears$Works", "lacksNeeded", "(II)Z"⟩, 11) := ⟨⟨by decide +kernel, by decide +kernel⟩, List.mem_of_getElem? (i := 96) (by decide +kernel), List.mem_of_getElem? (i := 187) (by decide +kernel), List.mem_of_getElem? (i := 188) (by decide +kernel)⟩
theorem lw_p1 : lw_okq (⟨"CostYears$Works", "savedWithEarlier", "(II)I"⟩, 11) := ⟨⟨by decide +kernel, by decide +kernel⟩, List.mem_of_getElem? (i := 96) (by decide +kernel), List.mem_of_getElem? (i := 201) (by decide +kernel), List.mem_of_getElem? (i := 202) (by decide +kernel)⟩
theorem lw_p2 : lw_okq (⟨"CostYears$Works", "spentInAll", "()I"⟩, 11) := ⟨⟨by decide +kernel, by decide +kernel⟩, List.mem_of_getElem? (i := 96) (by decide +kernel), List.mem_of_getElem? (i := 206) (by decide +kernel), List.mem_of_getElem? (i := 207) (by decide +kernel)⟩
theorem lw_p3 : lw_okq (⟨"CostYears", "renewParts", "()V"⟩, 6) := ⟨⟨by decide +kernel, by decide +kernel⟩, List.mem_of_getElem? (i := 16) (by decide +kernel), List.mem_of_getElem? (i := 214) (by decide +kernel), List.mem_of_getElem? (i := 215) (by decide +kernel)⟩
theorem lw_p4 : lw_okq (⟨"CostYears", "reckonReserves", "()V"⟩, 6) := ⟨⟨by decide +kernel, by decide +kernel⟩, List.mem_of_getElem? (i := 16) (by decide +kernel), List.mem_of_getElem? (i := 236) (by decide +kernel), List.mem_of_getElem? (i := 237) (by decide +kernel)⟩
theorem lw_p5 : lw_okq (⟨"CostYears", "takeCareFromReserves", "(I)V"⟩, 6) := ⟨⟨by decide +kernel, by decide +kernel⟩, List.mem_of_getElem? (i := 16) (by decide +kernel), List.mem_of_getElem? (i := 240) (by decide +kernel), List.mem_of_getElem? (i := 241) (by decide +kernel)⟩
theorem lw_p6 : lw_okq (⟨"CostYears$Parts", "begin", "(I)V"⟩, 9) := ⟨⟨by decide +kernel, by decide +kernel⟩, List.mem_of_getElem? (i := 55) (by decide +kernel), List.mem_of_getElem? (i := 249) (by decide +kernel), List.mem_of_getElem? (i := 250) (by decide +kernel)⟩
theorem lw_p7 : lw_okq (⟨"CostYears$Parts", "wear", "(I)V"⟩, 9) := ⟨⟨by decide +kernel, by decide +kernel⟩, List.mem_of_getElem? (i := 55) (by decide +kernel), List.mem_of_getElem? (i := 256) (by decide +kernel), List.mem_of_getElem? (i := 257) (by decide +kernel)⟩
theorem lw_p8 : lw_okq (⟨"java/lang/Throwable", "fillInStackTrace", "(I)Ljava/lang/Throwable;"⟩, 6) := ⟨⟨by decide +kernel, by decide +kernel⟩, List.mem_of_getElem? (i := 330) (by decide +kernel), List.mem_of_getElem? (i := 328) (by decide +kernel), List.mem_of_getElem? (i := 329) (by decide +kernel)⟩
theorem lw_p9 : lw_okq (⟨"CostYearsModel", "isYear", "(I)Z"⟩, 23) := ⟨⟨by decide +kernel, by decide +kernel⟩, List.mem_of_getElem? (i := 553) (by decide +kernel), List.mem_of_getElem? (i := 638) (by decide +kernel), List.mem_of_getElem? (i := 639) (by decide +kernel)⟩
theorem lw_p10 : lw_okq (⟨"CostYearsModel", "refuses", "(I)Z"⟩, 23) := ⟨⟨by decide +kernel, by decide +kernel⟩, List.mem_of_getElem? (i := 553) (by decide +kernel), List.mem_of_getElem? (i := 647) (by decide +kernel), List.mem_of_getElem? (i := 648) (by decide +kernel)⟩
theorem lw_p11 : lw_okq (⟨"CostYearsModel", "isState", "(II)Z"⟩, 23) := ⟨⟨by decide +kernel, by decide +kernel⟩, List.mem_of_getElem? (i := 553) (by decide +kernel), List.mem_of_getElem? (i := 666) (by decide +kernel), List.mem_of_getElem? (i := 667) (by decide +kernel)⟩
theorem lw_p12 : lw_okq (⟨"CostYearsModel", "isPart", "(I)Z"⟩, 23) := ⟨⟨by decide +kernel, by decide +kernel⟩, List.mem_of_getElem? (i := 553) (by decide +kernel), List.mem_of_getElem? (i := 670) (by decide +kernel), List.mem_of_getElem? (i := 671) (by decide +kernel)⟩
theorem lw_p13 : lw_okq (⟨"CostYearsModel", "leaving", "(II)I"⟩, 23) := ⟨⟨by decide +kernel, by decide +kernel⟩, List.mem_of_getElem? (i := 553) (by decide +kernel), List.mem_of_getElem? (i := 675) (by decide +kernel), List.mem_of_getElem? (i := 676) (by decide +kernel)⟩
theorem lw_p14 : lw_okq (⟨"CostYearsModel", "learn", "(II)J"⟩, 23) := ⟨⟨by decide +kernel, by decide +kernel⟩, List.mem_of_getElem? (i := 553) (by decide +kernel), List.mem_of_getElem? (i := 688) (by decide +kernel), List.mem_of_getElem? (i := 689) (by decide +kernel)⟩
theorem lw_p15 : lw_okq (⟨"CostYearsModel", "begins", "(II)I"⟩, 23) := ⟨⟨by decide +kernel, by decide +kernel⟩, List.mem_of_getElem? (i := 553) (by decide +kernel), List.mem_of_getElem? (i := 692) (by decide +kernel), List.mem_of_getElem? (i := 693) (by decide +kernel)⟩
def lw_privs_1 : List (MethodName × Nat) := [(⟨"CostYears$Works", "lacksNeeded", "(II)Z"⟩, 11), (⟨"CostYears$Works", "savedWithEarlier", "(II)I"⟩, 11), (⟨"CostYears$Works", "spentInAll", "()I"⟩, 11), (⟨"CostYears", "renewParts", "()V"⟩, 6), (⟨"CostYears", "reckonReserves", "()V"⟩, 6), (⟨"CostYears", "takeCareFromReserves", "(I)V"⟩, 6), (⟨"CostYears$Parts", "begin", "(I)V"⟩, 9), (⟨"CostYears$Parts", "wear", "(I)V"⟩, 9), (⟨"java/lang/Throwable", "fillInStackTrace", "(I)Ljava/lang/Throwable;"⟩, 6), (⟨"CostYearsModel", "isYear", "(I)Z"⟩, 23), (⟨"CostYearsModel", "refuses", "(I)Z"⟩, 23), (⟨"CostYearsModel", "isState", "(II)Z"⟩, 23), (⟨"CostYearsModel", "isPart", "(I)Z"⟩, 23), (⟨"CostYearsModel", "leaving", "(II)I"⟩, 23), (⟨"CostYearsModel", "learn", "(II)J"⟩, 23), (⟨"CostYearsModel", "begins", "(II)I"⟩, 23)]
theorem lw_r1 : ∀ q ∈ lw_privs_1, lw_okq q := List.forall_mem_cons.mpr ⟨lw_p0, List.forall_mem_cons.mpr ⟨lw_p1, List.forall_mem_cons.mpr ⟨lw_p2, List.forall_mem_cons.mpr ⟨lw_p3, List.forall_mem_cons.mpr ⟨lw_p4, List.forall_mem_cons.mpr ⟨lw_p5, List.forall_mem_cons.mpr ⟨lw_p6, List.forall_mem_cons.mpr ⟨lw_p7, List.forall_mem_cons.mpr ⟨lw_p8, List.forall_mem_cons.mpr ⟨lw_p9, List.forall_mem_cons.mpr ⟨lw_p10, List.forall_mem_cons.mpr ⟨lw_p11, List.forall_mem_cons.mpr ⟨lw_p12, List.forall_mem_cons.mpr ⟨lw_p13, List.forall_mem_cons.mpr ⟨lw_p14, List.forall_mem_cons.mpr ⟨lw_p15, fun _ h => absurd h List.not_mem_nil⟩⟩⟩⟩⟩⟩⟩⟩⟩⟩⟩⟩⟩⟩⟩⟩
theorem lw_p16 : lw_okq (⟨"CostYearsModel", "careOf", "(II)J"⟩, 23) := ⟨⟨by decide +kernel, by decide +kernel⟩, List.mem_of_getElem? (i := 553) (by decide +kernel), List.mem_of_getElem? (i := 700) (by decide +kernel), List.mem_of_getElem? (i := 701) (by decide +kernel)⟩
theorem lw_p17 : lw_okq (⟨"CostYearsModel", "areTwo", "(II)Z"⟩, 23) := ⟨⟨by decide +kernel, by decide +kernel⟩, List.mem_of_getElem? (i := 553) (by decide +kernel), List.mem_of_getElem? (i := 717) (by decide +kernel), List.mem_of_getElem? (i := 718) (by decide +kernel)⟩
theorem lw_p18 : lw_okq (⟨"CostYearsModel", "isWork", "(I)Z"⟩, 23) := ⟨⟨by decide +kernel, by decide +kernel⟩, List.mem_of_getElem? (i := 553) (by decide +kernel), List.mem_of_getElem? (i := 721) (by decide +kernel), List.mem_of_getElem? (i := 722) (by decide +kernel)⟩
theorem lw_p19 : lw_okq (⟨"CostYearsModel", "goesTogether", "(I)Z"⟩, 23) := ⟨⟨by decide +kernel, by decide +kernel⟩, List.mem_of_getElem? (i := 553) (by decide +kernel), List.mem_of_getElem? (i := 740) (by decide +kernel), List.mem_of_getElem? (i := 741) (by decide +kernel)⟩
theorem lw_p20 : lw_okq (⟨"CostYearsModel", "lackOf", "(I)J"⟩, 23) := ⟨⟨by decide +kernel, by decide +kernel⟩, List.mem_of_getElem? (i := 553) (by decide +kernel), List.mem_of_getElem? (i := 744) (by decide +kernel), List.mem_of_getElem? (i := 745) (by decide +kernel)⟩
theorem lw_p21 : lw_okq (⟨"CostYearsModel", "costOf", "(II)J"⟩, 23) := ⟨⟨by decide +kernel, by decide +kernel⟩, List.mem_of_getElem? (i := 553) (by decide +kernel), List.mem_of_getElem? (i := 748) (by decide +kernel), List.mem_of_getElem? (i := 749) (by decide +kernel)⟩
theorem lw_p22 : lw_okq (⟨"CostYearsModel", "reserveOf", "(I)J"⟩, 23) := ⟨⟨by decide +kernel, by decide +kernel⟩, List.mem_of_getElem? (i := 553) (by decide +kernel), List.mem_of_getElem? (i := 772) (by decide +kernel), List.mem_of_getElem? (i := 773) (by decide +kernel)⟩
def lw_privs_2 : List (MethodName × Nat) := [(⟨"CostYearsModel", "careOf", "(II)J"⟩, 23), (⟨"CostYearsModel", "areTwo", "(II)Z"⟩, 23), (⟨"CostYearsModel", "isWork", "(I)Z"⟩, 23), (⟨"CostYearsModel", "goesTogether", "(I)Z"⟩, 23), (⟨"CostYearsModel", "lackOf", "(I)J"⟩, 23), (⟨"CostYearsModel", "costOf", "(II)J"⟩, 23), (⟨"CostYearsModel", "reserveOf", "(I)J"⟩, 23)]
theorem lw_r2 : ∀ q ∈ lw_privs_2, lw_okq q := List.forall_mem_cons.mpr ⟨lw_p16, List.forall_mem_cons.mpr ⟨lw_p17, List.forall_mem_cons.mpr ⟨lw_p18, List.forall_mem_cons.mpr ⟨lw_p19, List.forall_mem_cons.mpr ⟨lw_p20, List.forall_mem_cons.mpr ⟨lw_p21, List.forall_mem_cons.mpr ⟨lw_p22, fun _ h => absurd h List.not_mem_nil⟩⟩⟩⟩⟩⟩⟩
def lw_privs : List (MethodName × Nat) := lw_privs_1 ++ (lw_privs_2)
def lw_tbl : List Cond := k2_sels lw_privs ++ tables_1
theorem lw_privs_ok : ∀ q ∈ lw_privs, lw_okq q := by
  show ∀ q ∈ lw_privs_1 ++ (lw_privs_2), lw_okq q
  exact List.forall_mem_append.mpr ⟨lw_r1, lw_r2⟩
end
section
/-! names, printed by wip/tools/names.py out of the claim's own listing and tables -/
/-- the tables' words that stay true on the way: every method's contract asks for these, and its own code -/
def gt : List Cond := lw_tbl.filter goodWord
theorem gt_at (i : Nat) {w : Cond} (h : lw_tbl[i]? = some w) (hg : goodWord w = true) : w ∈ gt := List.mem_filter.mpr ⟨List.mem_of_getElem? h, hg⟩
theorem gt_good : GoodIn gt gt := fun w h => ⟨h, good_of_word (List.mem_filter.mp h).2⟩
theorem gt_cons {w : Cond} (h : w ∈ gt) (v : Cond) : GoodIn (v :: gt) (w :: gt) := fun x hx => by
  rcases List.mem_cons.mp hx with e | h1
  · subst e
    exact ⟨List.mem_cons_of_mem _ h, (gt_good _ h).2⟩
  · exact ⟨List.mem_cons_of_mem _ h1, (gt_good _ h1).2⟩
theorem gt_to {w : Cond} (h : w ∈ gt) : GoodIn gt (w :: gt) := fun x hx => by
  rcases List.mem_cons.mp hx with e | h1
  · subst e
    exact gt_good _ h
  · exact gt_good _ h1
theorem gt_in : ∀ w ∈ gt, w ∈ lw_tbl := fun _ h => (List.mem_filter.mp h).1
def R_CY : String := "CostYears"
def R_Lo : String := "CostYears$Loan"
def R_Pa : String := "CostYears$Parts"
def R_Wo : String := "CostYears$Works"
def R_Ye : String := "CostYears$Years"
def R_Mo : String := "CostYearsModel"
def R_La : String := "CostYearsLaw"
def R_Ar : String := "java/util/Arrays"
def R_Ma : String := "java/lang/Math"
def T_CY : u_T := fun k => match k with
  | 0 => ("CostYears", "years", "LCostYears$Years;", true)
  | 1 => ("CostYears", "parts", "LCostYears$Parts;", true)
  | 2 => ("CostYears", "works", "LCostYears$Works;", true)
  | 3 => ("CostYears", "reserves", "[J", true)
  | 4 => ("CostYears", "beginning", "I", false)
  | _ => ("CostYears", "deposit", "I", false)
def ty_CY : Nat → FieldType := fun k => match k with
  | 0 => .object "CostYears$Years"
  | 1 => .object "CostYears$Parts"
  | 2 => .object "CostYears$Works"
  | 3 => .array .long
  | 4 => .int
  | _ => .int
theorem nm_CY : ∀ a, a < 6 → ∀ b, b < 6 → a ≠ b → (T_CY a).2.1 ≠ (T_CY b).2.1 := by decide +kernel
theorem tyok_CY : ∀ k, k < 6 → parseFieldDescriptor (T_CY k).2.2.1 = some (ty_CY k) := by decide +kernel
def T_Ye : u_T := fun k => match k with
  | 0 => ("CostYears$Years", "count", "I", true)
  | 1 => ("CostYears$Years", "indexes", "[I", true)
  | _ => ("CostYears$Years", "budgets", "[I", true)
def ty_Ye : Nat → FieldType := fun k => match k with
  | 0 => .int
  | 1 => .array .int
  | _ => .array .int
theorem nm_Ye : ∀ a, a < 3 → ∀ b, b < 3 → a ≠ b → (T_Ye a).2.1 ≠ (T_Ye b).2.1 := by decide +kernel
theorem tyok_Ye : ∀ k, k < 3 → parseFieldDescriptor (T_Ye k).2.2.1 = some (ty_Ye k) := by decide +kernel
def T_Pa : u_T := fun k => match k with
  | 0 => ("CostYears$Parts", "count", "I", false)
  | 1 => ("CostYears$Parts", "states", "[I", true)
  | 2 => ("CostYears$Parts", "starts", "[I", true)
  | 3 => ("CostYears$Parts", "sixteenths", "[[I", true)
  | 4 => ("CostYears$Parts", "takes", "[[I", true)
  | 5 => ("CostYears$Parts", "renewals", "[I", true)
  | 6 => ("CostYears$Parts", "shares", "[J", true)
  | 7 => ("CostYears$Parts", "sharesNext", "[J", true)
  | _ => ("CostYears$Parts", "yearsWorn", "I", false)
def ty_Pa : Nat → FieldType := fun k => match k with
  | 0 => .int
  | 1 => .array .int
  | 2 => .array .int
  | 3 => .array (.array .int)
  | 4 => .array (.array .int)
  | 5 => .array .int
  | 6 => .array .long
  | 7 => .array .long
  | _ => .int
theorem nm_Pa : ∀ a, a < 9 → ∀ b, b < 9 → a ≠ b → (T_Pa a).2.1 ≠ (T_Pa b).2.1 := by decide +kernel
theorem tyok_Pa : ∀ k, k < 9 → parseFieldDescriptor (T_Pa k).2.2.1 = some (ty_Pa k) := by decide +kernel
def T_Wo : u_T := fun k => match k with
  | 0 => ("CostYears$Works", "years", "LCostYears$Years;", true)
  | 1 => ("CostYears$Works", "count", "I", false)
  | 2 => ("CostYears$Works", "yearOf", "[I", true)
  | 3 => ("CostYears$Works", "cents", "[I", true)
  | 4 => ("CostYears$Works", "worth", "[I", true)
  | 5 => ("CostYears$Works", "partOf", "[I", true)
  | 6 => ("CostYears$Works", "needed", "[I", true)
  | 7 => ("CostYears$Works", "clashing", "[I", true)
  | 8 => ("CostYears$Works", "saves", "[[I", true)
  | 9 => ("CostYears$Works", "made", "I", false)
  | _ => ("CostYears$Works", "spent", "[I", true)
def ty_Wo : Nat → FieldType := fun k => match k with
  | 0 => .object "CostYears$Years"
  | 1 => .int
  | 2 => .array .int
  | 3 => .array .int
  | 4 => .array .int
  | 5 => .array .int
  | 6 => .array .int
  | 7 => .array .int
  | 8 => .array (.array .int)
  | 9 => .int
  | _ => .array .int
theorem nm_Wo : ∀ a, a < 11 → ∀ b, b < 11 → a ≠ b → (T_Wo a).2.1 ≠ (T_Wo b).2.1 := by decide +kernel
theorem tyok_Wo : ∀ k, k < 11 → parseFieldDescriptor (T_Wo k).2.2.1 = some (ty_Wo k) := by decide +kernel
def T_Mo : u_T := fun k => match k with
  | 0 => ("CostYearsModel", "thrown", "I", false)
  | 1 => ("CostYearsModel", "years", "I", true)
  | 2 => ("CostYearsModel", "indexes", "[I", true)
  | 3 => ("CostYearsModel", "budgets", "[I", true)
  | 4 => ("CostYearsModel", "parts", "I", false)
  | 5 => ("CostYearsModel", "states", "[I", true)
  | 6 => ("CostYearsModel", "starts", "[I", true)
  | 7 => ("CostYearsModel", "goes", "[I", true)
  | 8 => ("CostYearsModel", "cares", "[I", true)
  | 9 => ("CostYearsModel", "works", "I", false)
  | 10 => ("CostYearsModel", "workYears", "[I", true)
  | 11 => ("CostYearsModel", "cents", "[I", true)
  | 12 => ("CostYearsModel", "worths", "[I", true)
  | 13 => ("CostYearsModel", "renews", "[I", true)
  | 14 => ("CostYearsModel", "needed", "[I", true)
  | 15 => ("CostYearsModel", "saves", "[I", true)
  | 16 => ("CostYearsModel", "clashes", "[Z", true)
  | 17 => ("CostYearsModel", "chosen", "I", false)
  | 18 => ("CostYearsModel", "beginning", "J", false)
  | 19 => ("CostYearsModel", "deposit", "J", false)
  | 20 => ("CostYearsModel", "shares", "[J", true)
  | 21 => ("CostYearsModel", "next", "[J", true)
  | _ => ("CostYearsModel", "spent", "J", false)
def ty_Mo : Nat → FieldType := fun k => match k with
  | 0 => .int
  | 1 => .int
  | 2 => .array .int
  | 3 => .array .int
  | 4 => .int
  | 5 => .array .int
  | 6 => .array .int
  | 7 => .array .int
  | 8 => .array .int
  | 9 => .int
  | 10 => .array .int
  | 11 => .array .int
  | 12 => .array .int
  | 13 => .array .int
  | 14 => .array .int
  | 15 => .array .int
  | 16 => .array .boolean
  | 17 => .int
  | 18 => .long
  | 19 => .long
  | 20 => .array .long
  | 21 => .array .long
  | _ => .long
theorem nm_Mo : ∀ a, a < 23 → ∀ b, b < 23 → a ≠ b → (T_Mo a).2.1 ≠ (T_Mo b).2.1 := by decide +kernel
theorem tyok_Mo : ∀ k, k < 23 → parseFieldDescriptor (T_Mo k).2.2.1 = some (ty_Mo k) := by decide +kernel
abbrev clz : List vw_C := [(R_CY, T_CY, 6), (R_Ye, T_Ye, 3), (R_Pa, T_Pa, 9), (R_Wo, T_Wo, 11), (R_Mo, T_Mo, 23)]
set_option maxRecDepth 100000 in
theorem in_CY : ∀ w ∈ u_ws R_CY T_CY 6, w ∈ gt := by
  intro w hw
  obtain ⟨k, hk, rfl⟩ := List.mem_map.mp hw
  have hk := List.mem_range.mp hk
  match k, hk with
  | 0, _ => exact gt_at 173 (by decide +kernel) (by decide +kernel)
  | 1, _ => exact gt_at 175 (by decide +kernel) (by decide +kernel)
  | 2, _ => exact gt_at 177 (by decide +kernel) (by decide +kernel)
  | 3, _ => exact gt_at 179 (by decide +kernel) (by decide +kernel)
  | 4, _ => exact gt_at 181 (by decide +kernel) (by decide +kernel)
  | 5, _ => exact gt_at 183 (by decide +kernel) (by decide +kernel)
  | k + 6, hk => exact absurd hk (by omega)
set_option maxRecDepth 100000 in
theorem in_Ye : ∀ w ∈ u_ws R_Ye T_Ye 3, w ∈ gt := by
  intro w hw
  obtain ⟨k, hk, rfl⟩ := List.mem_map.mp hw
  have hk := List.mem_range.mp hk
  match k, hk with
  | 0, _ => exact gt_at 69 (by decide +kernel) (by decide +kernel)
  | 1, _ => exact gt_at 71 (by decide +kernel) (by decide +kernel)
  | 2, _ => exact gt_at 73 (by decide +kernel) (by decide +kernel)
  | k + 3, hk => exact absurd hk (by omega)
set_option maxRecDepth 100000 in
theorem in_Pa : ∀ w ∈ u_ws R_Pa T_Pa 9, w ∈ gt := by
  intro w hw
  obtain ⟨k, hk, rfl⟩ := List.mem_map.mp hw
  have hk := List.mem_range.mp hk
  match k, hk with
  | 0, _ => exact gt_at 98 (by decide +kernel) (by decide +kernel)
  | 1, _ => exact gt_at 100 (by decide +kernel) (by decide +kernel)
  | 2, _ => exact gt_at 102 (by decide +kernel) (by decide +kernel)
  | 3, _ => exact gt_at 104 (by decide +kernel) (by decide +kernel)
  | 4, _ => exact gt_at 106 (by decide +kernel) (by decide +kernel)
  | 5, _ => exact gt_at 108 (by decide +kernel) (by decide +kernel)
  | 6, _ => exact gt_at 110 (by decide +kernel) (by decide +kernel)
  | 7, _ => exact gt_at 112 (by decide +kernel) (by decide +kernel)
  | 8, _ => exact gt_at 114 (by decide +kernel) (by decide +kernel)
  | k + 9, hk => exact absurd hk (by omega)
set_option maxRecDepth 100000 in
theorem in_Wo : ∀ w ∈ u_ws R_Wo T_Wo 11, w ∈ gt := by
  intro w hw
  obtain ⟨k, hk, rfl⟩ := List.mem_map.mp hw
  have hk := List.mem_range.mp hk
  match k, hk with
  | 0, _ => exact gt_at 144 (by decide +kernel) (by decide +kernel)
  | 1, _ => exact gt_at 146 (by decide +kernel) (by decide +kernel)
  | 2, _ => exact gt_at 148 (by decide +kernel) (by decide +kernel)
  | 3, _ => exact gt_at 150 (by decide +kernel) (by decide +kernel)
  | 4, _ => exact gt_at 152 (by decide +kernel) (by decide +kernel)
  | 5, _ => exact gt_at 154 (by decide +kernel) (by decide +kernel)
  | 6, _ => exact gt_at 156 (by decide +kernel) (by decide +kernel)
  | 7, _ => exact gt_at 158 (by decide +kernel) (by decide +kernel)
  | 8, _ => exact gt_at 160 (by decide +kernel) (by decide +kernel)
  | 9, _ => exact gt_at 162 (by decide +kernel) (by decide +kernel)
  | 10, _ => exact gt_at 164 (by decide +kernel) (by decide +kernel)
  | k + 11, hk => exact absurd hk (by omega)
set_option maxRecDepth 100000 in
theorem in_Mo : ∀ w ∈ u_ws R_Mo T_Mo 23, w ∈ gt := by
  intro w hw
  obtain ⟨k, hk, rfl⟩ := List.mem_map.mp hw
  have hk := List.mem_range.mp hk
  match k, hk with
  | 0, _ => exact gt_at 604 (by decide +kernel) (by decide +kernel)
  | 1, _ => exact gt_at 606 (by decide +kernel) (by decide +kernel)
  | 2, _ => exact gt_at 608 (by decide +kernel) (by decide +kernel)
  | 3, _ => exact gt_at 610 (by decide +kernel) (by decide +kernel)
  | 4, _ => exact gt_at 612 (by decide +kernel) (by decide +kernel)
  | 5, _ => exact gt_at 614 (by decide +kernel) (by decide +kernel)
  | 6, _ => exact gt_at 616 (by decide +kernel) (by decide +kernel)
  | 7, _ => exact gt_at 618 (by decide +kernel) (by decide +kernel)
  | 8, _ => exact gt_at 620 (by decide +kernel) (by decide +kernel)
  | 9, _ => exact gt_at 622 (by decide +kernel) (by decide +kernel)
  | 10, _ => exact gt_at 624 (by decide +kernel) (by decide +kernel)
  | 11, _ => exact gt_at 626 (by decide +kernel) (by decide +kernel)
  | 12, _ => exact gt_at 628 (by decide +kernel) (by decide +kernel)
  | 13, _ => exact gt_at 630 (by decide +kernel) (by decide +kernel)
  | 14, _ => exact gt_at 632 (by decide +kernel) (by decide +kernel)
  | 15, _ => exact gt_at 634 (by decide +kernel) (by decide +kernel)
  | 16, _ => exact gt_at 636 (by decide +kernel) (by decide +kernel)
  | 17, _ => exact gt_at 638 (by decide +kernel) (by decide +kernel)
  | 18, _ => exact gt_at 640 (by decide +kernel) (by decide +kernel)
  | 19, _ => exact gt_at 642 (by decide +kernel) (by decide +kernel)
  | 20, _ => exact gt_at 644 (by decide +kernel) (by decide +kernel)
  | 21, _ => exact gt_at 646 (by decide +kernel) (by decide +kernel)
  | 22, _ => exact gt_at 648 (by decide +kernel) (by decide +kernel)
  | k + 23, hk => exact absurd hk (by omega)
def y_CY_init : MethodName := ⟨R_CY, "<init>", "(I)V"⟩
abbrev c_CY_init : ByteArray := prog_1_method_1_code
abbrev w_CY_init : Cond := .code y_CY_init c_CY_init 2 none
set_option maxRecDepth 100000 in
theorem kc_CY_init : w_CY_init ∈ gt := gt_at 42 rfl (by decide +kernel)
def y_CY_index : MethodName := ⟨R_CY, "index", "(II)I"⟩
abbrev c_CY_index : ByteArray := prog_1_method_2_code
abbrev w_CY_index : Cond := .code y_CY_index c_CY_index 4 (some .int)
set_option maxRecDepth 100000 in
theorem kc_CY_index : w_CY_index ∈ gt := gt_at 304 rfl (by decide +kernel)
def y_CY_budget : MethodName := ⟨R_CY, "budget", "(II)I"⟩
abbrev c_CY_budget : ByteArray := prog_1_method_3_code
abbrev w_CY_budget : Cond := .code y_CY_budget c_CY_budget 4 (some .int)
set_option maxRecDepth 100000 in
theorem kc_CY_budget : w_CY_budget ∈ gt := gt_at 388 rfl (by decide +kernel)
def y_CY_part : MethodName := ⟨R_CY, "part", "(II)I"⟩
abbrev c_CY_part : ByteArray := prog_1_method_4_code
abbrev w_CY_part : Cond := .code y_CY_part c_CY_part 3 (some .int)
set_option maxRecDepth 100000 in
theorem kc_CY_part : w_CY_part ∈ gt := gt_at 397 rfl (by decide +kernel)
def y_CY_moves : MethodName := ⟨R_CY, "moves", "(IIII)I"⟩
abbrev c_CY_moves : ByteArray := prog_1_method_5_code
abbrev w_CY_moves : Cond := .code y_CY_moves c_CY_moves 7 (some .int)
set_option maxRecDepth 100000 in
theorem kc_CY_moves : w_CY_moves ∈ gt := gt_at 431 rfl (by decide +kernel)
def y_CY_care : MethodName := ⟨R_CY, "care", "(III)I"⟩
abbrev c_CY_care : ByteArray := prog_1_method_6_code
abbrev w_CY_care : Cond := .code y_CY_care c_CY_care 5 (some .int)
set_option maxRecDepth 100000 in
theorem kc_CY_care : w_CY_care ∈ gt := gt_at 448 rfl (by decide +kernel)
def y_CY_share : MethodName := ⟨R_CY, "share", "(III)J"⟩
abbrev c_CY_share : ByteArray := prog_1_method_7_code
abbrev w_CY_share : Cond := .code y_CY_share c_CY_share 4 (some .long)
set_option maxRecDepth 100000 in
theorem kc_CY_share : w_CY_share ∈ gt := gt_at 455 rfl (by decide +kernel)
def y_CY_cares : MethodName := ⟨R_CY, "cares", "(II)I"⟩
abbrev c_CY_cares : ByteArray := prog_1_method_8_code
abbrev w_CY_cares : Cond := .code y_CY_cares c_CY_cares 3 (some .int)
set_option maxRecDepth 100000 in
theorem kc_CY_cares : w_CY_cares ∈ gt := gt_at 467 rfl (by decide +kernel)
def y_CY_most : MethodName := ⟨R_CY, "most", "(II)I"⟩
abbrev c_CY_most : ByteArray := prog_1_method_9_code
abbrev w_CY_most : Cond := .code y_CY_most c_CY_most 3 (some .int)
set_option maxRecDepth 100000 in
theorem kc_CY_most : w_CY_most ∈ gt := gt_at 475 rfl (by decide +kernel)
def y_CY_work : MethodName := ⟨R_CY, "work", "(IIII)I"⟩
abbrev c_CY_work : ByteArray := prog_1_method_10_code
abbrev w_CY_work : Cond := .code y_CY_work c_CY_work 5 (some .int)
set_option maxRecDepth 100000 in
theorem kc_CY_work : w_CY_work ∈ gt := gt_at 486 rfl (by decide +kernel)
def y_CY_join : MethodName := ⟨R_CY, "join", "(III)I"⟩
abbrev c_CY_join : ByteArray := prog_1_method_11_code
abbrev w_CY_join : Cond := .code y_CY_join c_CY_join 5 (some .int)
set_option maxRecDepth 100000 in
theorem kc_CY_join : w_CY_join ∈ gt := gt_at 498 rfl (by decide +kernel)
def y_CY_clash : MethodName := ⟨R_CY, "clash", "(IIZ)Z"⟩
abbrev c_CY_clash : ByteArray := prog_1_method_12_code
abbrev w_CY_clash : Cond := .code y_CY_clash c_CY_clash 5 (some .boolean)
set_option maxRecDepth 100000 in
theorem kc_CY_clash : w_CY_clash ∈ gt := gt_at 509 rfl (by decide +kernel)
def y_CY_needs : MethodName := ⟨R_CY, "needs", "(II)I"⟩
abbrev c_CY_needs : ByteArray := prog_1_method_13_code
abbrev w_CY_needs : Cond := .code y_CY_needs c_CY_needs 4 (some .int)
set_option maxRecDepth 100000 in
theorem kc_CY_needs : w_CY_needs ∈ gt := gt_at 516 rfl (by decide +kernel)
def y_CY_choose : MethodName := ⟨R_CY, "choose", "()I"⟩
abbrev c_CY_choose : ByteArray := prog_1_method_14_code
abbrev w_CY_choose : Cond := .code y_CY_choose c_CY_choose 1 (some .int)
set_option maxRecDepth 100000 in
theorem kc_CY_choose : w_CY_choose ∈ gt := gt_at 189 rfl (by decide +kernel)
def y_CY_chosen : MethodName := ⟨R_CY, "chosen", "(I)Z"⟩
abbrev c_CY_chosen : ByteArray := prog_1_method_15_code
abbrev w_CY_chosen : Cond := .code y_CY_chosen c_CY_chosen 2 (some .boolean)
set_option maxRecDepth 100000 in
theorem kc_CY_chosen : w_CY_chosen ∈ gt := gt_at 523 rfl (by decide +kernel)
def y_CY_costs : MethodName := ⟨R_CY, "costs", "(I)I"⟩
abbrev c_CY_costs : ByteArray := prog_1_method_16_code
abbrev w_CY_costs : Cond := .code y_CY_costs c_CY_costs 2 (some .int)
set_option maxRecDepth 100000 in
theorem kc_CY_costs : w_CY_costs ∈ gt := gt_at 530 rfl (by decide +kernel)
def y_CY_lacks : MethodName := ⟨R_CY, "lacks", "(I)I"⟩
abbrev c_CY_lacks : ByteArray := prog_1_method_17_code
abbrev w_CY_lacks : Cond := .code y_CY_lacks c_CY_lacks 3 (some .int)
set_option maxRecDepth 100000 in
theorem kc_CY_lacks : w_CY_lacks ∈ gt := gt_at 249 rfl (by decide +kernel)
def y_CY_money : MethodName := ⟨R_CY, "money", "(II)V"⟩
abbrev c_CY_money : ByteArray := prog_1_method_18_code
abbrev w_CY_money : Cond := .code y_CY_money c_CY_money 3 none
set_option maxRecDepth 100000 in
theorem kc_CY_money : w_CY_money ∈ gt := gt_at 537 rfl (by decide +kernel)
def y_CY_reserve : MethodName := ⟨R_CY, "reserve", "(I)J"⟩
abbrev c_CY_reserve : ByteArray := prog_1_method_19_code
abbrev w_CY_reserve : Cond := .code y_CY_reserve c_CY_reserve 2 (some .long)
set_option maxRecDepth 100000 in
theorem kc_CY_reserve : w_CY_reserve ∈ gt := gt_at 544 rfl (by decide +kernel)
def y_CY_shortIn : MethodName := ⟨R_CY, "shortIn", "()I"⟩
abbrev c_CY_shortIn : ByteArray := prog_1_method_20_code
abbrev w_CY_shortIn : Cond := .code y_CY_shortIn c_CY_shortIn 2 (some .int)
set_option maxRecDepth 100000 in
theorem kc_CY_shortIn : w_CY_shortIn ∈ gt := gt_at 257 rfl (by decide +kernel)
def y_CY_payment : MethodName := ⟨R_CY, "payment", "(III)I"⟩
abbrev c_CY_payment : ByteArray := prog_1_method_21_code
abbrev w_CY_payment : Cond := .code y_CY_payment c_CY_payment 4 (some .int)
set_option maxRecDepth 100000 in
theorem kc_CY_payment : w_CY_payment ∈ gt := gt_at 551 rfl (by decide +kernel)
def y_CY_rest : MethodName := ⟨R_CY, "rest", "(IIII)I"⟩
abbrev c_CY_rest : ByteArray := prog_1_method_22_code
abbrev w_CY_rest : Cond := .code y_CY_rest c_CY_rest 5 (some .int)
set_option maxRecDepth 100000 in
theorem kc_CY_rest : w_CY_rest ∈ gt := gt_at 573 rfl (by decide +kernel)
def y_CY_refuseUnless : MethodName := ⟨R_CY, "refuseUnless", "(Z)V"⟩
abbrev c_CY_refuseUnless : ByteArray := prog_1_method_23_code
abbrev w_CY_refuseUnless : Cond := .code y_CY_refuseUnless c_CY_refuseUnless 1 none
set_option maxRecDepth 100000 in
theorem kc_CY_refuseUnless : w_CY_refuseUnless ∈ gt := gt_at 314 rfl (by decide +kernel)
def y_CY_refuseIfFull : MethodName := ⟨R_CY, "refuseIfFull", "(Z)V"⟩
abbrev c_CY_refuseIfFull : ByteArray := prog_1_method_24_code
abbrev w_CY_refuseIfFull : Cond := .code y_CY_refuseIfFull c_CY_refuseIfFull 1 none
set_option maxRecDepth 100000 in
theorem kc_CY_refuseIfFull : w_CY_refuseIfFull ∈ gt := gt_at 400 rfl (by decide +kernel)
def y_CY_isWithin : MethodName := ⟨R_CY, "isWithin", "(III)Z"⟩
abbrev c_CY_isWithin : ByteArray := prog_1_method_25_code
abbrev w_CY_isWithin : Cond := .code y_CY_isWithin c_CY_isWithin 3 (some .boolean)
set_option maxRecDepth 100000 in
theorem kc_CY_isWithin : w_CY_isWithin ∈ gt := gt_at 311 rfl (by decide +kernel)
def y_CY_holds : MethodName := ⟨R_CY, "holds", "(II)Z"⟩
abbrev c_CY_holds : ByteArray := prog_1_method_26_code
abbrev w_CY_holds : Cond := .code y_CY_holds c_CY_holds 2 (some .boolean)
set_option maxRecDepth 100000 in
theorem kc_CY_holds : w_CY_holds ∈ gt := gt_at 204 rfl (by decide +kernel)
def y_CY_withBit : MethodName := ⟨R_CY, "withBit", "(IIZ)I"⟩
abbrev c_CY_withBit : ByteArray := prog_1_method_27_code
abbrev w_CY_withBit : Cond := .code y_CY_withBit c_CY_withBit 3 (some .int)
set_option maxRecDepth 100000 in
theorem kc_CY_withBit : w_CY_withBit ∈ gt := gt_at 244 rfl (by decide +kernel)
def y_CY_renewParts : MethodName := ⟨R_CY, "renewParts", "()V"⟩
abbrev c_CY_renewParts : ByteArray := prog_1_method_28_code
abbrev w_CY_renewParts : Cond := .code y_CY_renewParts c_CY_renewParts 3 none
set_option maxRecDepth 100000 in
theorem kc_CY_renewParts : w_CY_renewParts ∈ gt := gt_at 239 rfl (by decide +kernel)
def y_CY_reckonReserves : MethodName := ⟨R_CY, "reckonReserves", "()V"⟩
abbrev c_CY_reckonReserves : ByteArray := prog_1_method_29_code
abbrev w_CY_reckonReserves : Cond := .code y_CY_reckonReserves c_CY_reckonReserves 4 none
set_option maxRecDepth 100000 in
theorem kc_CY_reckonReserves : w_CY_reckonReserves ∈ gt := gt_at 261 rfl (by decide +kernel)
def y_CY_takeCareFromReserves : MethodName := ⟨R_CY, "takeCareFromReserves", "(I)V"⟩
abbrev c_CY_takeCareFromReserves : ByteArray := prog_1_method_30_code
abbrev w_CY_takeCareFromReserves : Cond := .code y_CY_takeCareFromReserves c_CY_takeCareFromReserves 3 none
set_option maxRecDepth 100000 in
theorem kc_CY_takeCareFromReserves : w_CY_takeCareFromReserves ∈ gt := gt_at 265 rfl (by decide +kernel)
def y_Mo_init : MethodName := ⟨R_Mo, "<init>", "(I)V"⟩
abbrev c_Mo_init : ByteArray := prog_7_method_1_code
abbrev w_Mo_init : Cond := .code y_Mo_init c_Mo_init 3 none
set_option maxRecDepth 100000 in
theorem kc_Mo_init : w_Mo_init ∈ gt := gt_at 579 rfl (by decide +kernel)
def y_Mo_thrown : MethodName := ⟨R_Mo, "thrown", "()I"⟩
abbrev c_Mo_thrown : ByteArray := prog_7_method_2_code
abbrev w_Mo_thrown : Cond := .code y_Mo_thrown c_Mo_thrown 1 (some .int)
set_option maxRecDepth 100000 in
theorem kc_Mo_thrown : w_Mo_thrown ∈ gt := gt_at 655 rfl (by decide +kernel)
def y_Mo_refuses : MethodName := ⟨R_Mo, "refuses", "(I)Z"⟩
abbrev c_Mo_refuses : ByteArray := prog_7_method_3_code
abbrev w_Mo_refuses : Cond := .code y_Mo_refuses c_Mo_refuses 2 (some .boolean)
set_option maxRecDepth 100000 in
theorem kc_Mo_refuses : w_Mo_refuses ∈ gt := gt_at 672 rfl (by decide +kernel)
def y_Mo_within : MethodName := ⟨R_Mo, "within", "(JJJ)Z"⟩
abbrev c_Mo_within : ByteArray := prog_7_method_4_code
abbrev w_Mo_within : Cond := .code y_Mo_within c_Mo_within 6 (some .boolean)
set_option maxRecDepth 100000 in
theorem kc_Mo_within : w_Mo_within ∈ gt := gt_at 666 rfl (by decide +kernel)
def y_Mo_isYear : MethodName := ⟨R_Mo, "isYear", "(I)Z"⟩
abbrev c_Mo_isYear : ByteArray := prog_7_method_5_code
abbrev w_Mo_isYear : Cond := .code y_Mo_isYear c_Mo_isYear 2 (some .boolean)
set_option maxRecDepth 100000 in
theorem kc_Mo_isYear : w_Mo_isYear ∈ gt := gt_at 663 rfl (by decide +kernel)
def y_Mo_isPart : MethodName := ⟨R_Mo, "isPart", "(I)Z"⟩
abbrev c_Mo_isPart : ByteArray := prog_7_method_6_code
abbrev w_Mo_isPart : Cond := .code y_Mo_isPart c_Mo_isPart 2 (some .boolean)
set_option maxRecDepth 100000 in
theorem kc_Mo_isPart : w_Mo_isPart ∈ gt := gt_at 695 rfl (by decide +kernel)
def y_Mo_isState : MethodName := ⟨R_Mo, "isState", "(II)Z"⟩
abbrev c_Mo_isState : ByteArray := prog_7_method_7_code
abbrev w_Mo_isState : Cond := .code y_Mo_isState c_Mo_isState 3 (some .boolean)
set_option maxRecDepth 100000 in
theorem kc_Mo_isState : w_Mo_isState ∈ gt := gt_at 691 rfl (by decide +kernel)
def y_Mo_isWork : MethodName := ⟨R_Mo, "isWork", "(I)Z"⟩
abbrev c_Mo_isWork : ByteArray := prog_7_method_8_code
abbrev w_Mo_isWork : Cond := .code y_Mo_isWork c_Mo_isWork 2 (some .boolean)
set_option maxRecDepth 100000 in
theorem kc_Mo_isWork : w_Mo_isWork ∈ gt := gt_at 746 rfl (by decide +kernel)
def y_Mo_index : MethodName := ⟨R_Mo, "index", "(II)I"⟩
abbrev c_Mo_index : ByteArray := prog_7_method_9_code
abbrev w_Mo_index : Cond := .code y_Mo_index c_Mo_index 4 (some .int)
set_option maxRecDepth 100000 in
theorem kc_Mo_index : w_Mo_index ∈ gt := gt_at 659 rfl (by decide +kernel)
def y_Mo_budget : MethodName := ⟨R_Mo, "budget", "(II)I"⟩
abbrev c_Mo_budget : ByteArray := prog_7_method_10_code
abbrev w_Mo_budget : Cond := .code y_Mo_budget c_Mo_budget 4 (some .int)
set_option maxRecDepth 100000 in
theorem kc_Mo_budget : w_Mo_budget ∈ gt := gt_at 676 rfl (by decide +kernel)
def y_Mo_part : MethodName := ⟨R_Mo, "part", "(II)I"⟩
abbrev c_Mo_part : ByteArray := prog_7_method_11_code
abbrev w_Mo_part : Cond := .code y_Mo_part c_Mo_part 4 (some .int)
set_option maxRecDepth 100000 in
theorem kc_Mo_part : w_Mo_part ∈ gt := gt_at 681 rfl (by decide +kernel)
def y_Mo_leaving : MethodName := ⟨R_Mo, "leaving", "(II)I"⟩
abbrev c_Mo_leaving : ByteArray := prog_7_method_12_code
abbrev w_Mo_leaving : Cond := .code y_Mo_leaving c_Mo_leaving 5 (some .int)
set_option maxRecDepth 100000 in
theorem kc_Mo_leaving : w_Mo_leaving ∈ gt := gt_at 700 rfl (by decide +kernel)
def y_Mo_moves : MethodName := ⟨R_Mo, "moves", "(IIII)I"⟩
abbrev c_Mo_moves : ByteArray := prog_7_method_13_code
abbrev w_Mo_moves : Cond := .code y_Mo_moves c_Mo_moves 7 (some .int)
set_option maxRecDepth 100000 in
theorem kc_Mo_moves : w_Mo_moves ∈ gt := gt_at 687 rfl (by decide +kernel)
def y_Mo_care : MethodName := ⟨R_Mo, "care", "(III)I"⟩
abbrev c_Mo_care : ByteArray := prog_7_method_14_code
abbrev w_Mo_care : Cond := .code y_Mo_care c_Mo_care 5 (some .int)
set_option maxRecDepth 100000 in
theorem kc_Mo_care : w_Mo_care ∈ gt := gt_at 704 rfl (by decide +kernel)
def y_Mo_begins : MethodName := ⟨R_Mo, "begins", "(II)I"⟩
abbrev c_Mo_begins : ByteArray := prog_7_method_15_code
abbrev w_Mo_begins : Cond := .code y_Mo_begins c_Mo_begins 6 (some .int)
set_option maxRecDepth 100000 in
theorem kc_Mo_begins : w_Mo_begins ∈ gt := gt_at 717 rfl (by decide +kernel)
def y_Mo_learn : MethodName := ⟨R_Mo, "learn", "(II)J"⟩
abbrev c_Mo_learn : ByteArray := prog_7_method_16_code
abbrev w_Mo_learn : Cond := .code y_Mo_learn c_Mo_learn 8 (some .long)
set_option maxRecDepth 100000 in
theorem kc_Mo_learn : w_Mo_learn ∈ gt := gt_at 713 rfl (by decide +kernel)
def y_Mo_share : MethodName := ⟨R_Mo, "share", "(III)J"⟩
abbrev c_Mo_share : ByteArray := prog_7_method_17_code
abbrev w_Mo_share : Cond := .code y_Mo_share c_Mo_share 6 (some .long)
set_option maxRecDepth 100000 in
theorem kc_Mo_share : w_Mo_share ∈ gt := gt_at 709 rfl (by decide +kernel)
def y_Mo_careOf : MethodName := ⟨R_Mo, "careOf", "(II)J"⟩
abbrev c_Mo_careOf : ByteArray := prog_7_method_18_code
abbrev w_Mo_careOf : Cond := .code y_Mo_careOf c_Mo_careOf 8 (some .long)
set_option maxRecDepth 100000 in
theorem kc_Mo_careOf : w_Mo_careOf ∈ gt := gt_at 725 rfl (by decide +kernel)
def y_Mo_cares : MethodName := ⟨R_Mo, "cares", "(II)I"⟩
abbrev c_Mo_cares : ByteArray := prog_7_method_19_code
abbrev w_Mo_cares : Cond := .code y_Mo_cares c_Mo_cares 3 (some .int)
set_option maxRecDepth 100000 in
theorem kc_Mo_cares : w_Mo_cares ∈ gt := gt_at 721 rfl (by decide +kernel)
def y_Mo_most : MethodName := ⟨R_Mo, "most", "(II)I"⟩
abbrev c_Mo_most : ByteArray := prog_7_method_20_code
abbrev w_Mo_most : Cond := .code y_Mo_most c_Mo_most 7 (some .int)
set_option maxRecDepth 100000 in
theorem kc_Mo_most : w_Mo_most ∈ gt := gt_at 729 rfl (by decide +kernel)
def y_Mo_work : MethodName := ⟨R_Mo, "work", "(IIII)I"⟩
abbrev c_Mo_work : ByteArray := prog_7_method_21_code
abbrev w_Mo_work : Cond := .code y_Mo_work c_Mo_work 6 (some .int)
set_option maxRecDepth 100000 in
theorem kc_Mo_work : w_Mo_work ∈ gt := gt_at 733 rfl (by decide +kernel)
def y_Mo_areTwo : MethodName := ⟨R_Mo, "areTwo", "(II)Z"⟩
abbrev c_Mo_areTwo : ByteArray := prog_7_method_22_code
abbrev w_Mo_areTwo : Cond := .code y_Mo_areTwo c_Mo_areTwo 3 (some .boolean)
set_option maxRecDepth 100000 in
theorem kc_Mo_areTwo : w_Mo_areTwo ∈ gt := gt_at 742 rfl (by decide +kernel)
def y_Mo_join : MethodName := ⟨R_Mo, "join", "(III)I"⟩
abbrev c_Mo_join : ByteArray := prog_7_method_23_code
abbrev w_Mo_join : Cond := .code y_Mo_join c_Mo_join 5 (some .int)
set_option maxRecDepth 100000 in
theorem kc_Mo_join : w_Mo_join ∈ gt := gt_at 738 rfl (by decide +kernel)
def y_Mo_clash : MethodName := ⟨R_Mo, "clash", "(IIZ)Z"⟩
abbrev c_Mo_clash : ByteArray := prog_7_method_24_code
abbrev w_Mo_clash : Cond := .code y_Mo_clash c_Mo_clash 5 (some .boolean)
set_option maxRecDepth 100000 in
theorem kc_Mo_clash : w_Mo_clash ∈ gt := gt_at 750 rfl (by decide +kernel)
def y_Mo_needs : MethodName := ⟨R_Mo, "needs", "(II)I"⟩
abbrev c_Mo_needs : ByteArray := prog_7_method_25_code
abbrev w_Mo_needs : Cond := .code y_Mo_needs c_Mo_needs 4 (some .int)
set_option maxRecDepth 100000 in
theorem kc_Mo_needs : w_Mo_needs ∈ gt := gt_at 754 rfl (by decide +kernel)
def y_Mo_has : MethodName := ⟨R_Mo, "has", "(II)Z"⟩
abbrev c_Mo_has : ByteArray := prog_7_method_26_code
abbrev w_Mo_has : Cond := .code y_Mo_has c_Mo_has 2 (some .boolean)
set_option maxRecDepth 100000 in
theorem kc_Mo_has : w_Mo_has ∈ gt := gt_at 761 rfl (by decide +kernel)
def y_Mo_goesTogether : MethodName := ⟨R_Mo, "goesTogether", "(I)Z"⟩
abbrev c_Mo_goesTogether : ByteArray := prog_7_method_27_code
abbrev w_Mo_goesTogether : Cond := .code y_Mo_goesTogether c_Mo_goesTogether 5 (some .boolean)
set_option maxRecDepth 100000 in
theorem kc_Mo_goesTogether : w_Mo_goesTogether ∈ gt := gt_at 765 rfl (by decide +kernel)
def y_Mo_costOf : MethodName := ⟨R_Mo, "costOf", "(II)J"⟩
abbrev c_Mo_costOf : ByteArray := prog_7_method_28_code
abbrev w_Mo_costOf : Cond := .code y_Mo_costOf c_Mo_costOf 7 (some .long)
set_option maxRecDepth 100000 in
theorem kc_Mo_costOf : w_Mo_costOf ∈ gt := gt_at 773 rfl (by decide +kernel)
def y_Mo_lackOf : MethodName := ⟨R_Mo, "lackOf", "(I)J"⟩
abbrev c_Mo_lackOf : ByteArray := prog_7_method_29_code
abbrev w_Mo_lackOf : Cond := .code y_Mo_lackOf c_Mo_lackOf 7 (some .long)
set_option maxRecDepth 100000 in
theorem kc_Mo_lackOf : w_Mo_lackOf ∈ gt := gt_at 769 rfl (by decide +kernel)
def y_Mo_choose : MethodName := ⟨R_Mo, "choose", "()I"⟩
abbrev c_Mo_choose : ByteArray := prog_7_method_30_code
abbrev w_Mo_choose : Cond := .code y_Mo_choose c_Mo_choose 8 (some .int)
set_option maxRecDepth 100000 in
theorem kc_Mo_choose : w_Mo_choose ∈ gt := gt_at 758 rfl (by decide +kernel)
def y_Mo_chosen : MethodName := ⟨R_Mo, "chosen", "(I)Z"⟩
abbrev c_Mo_chosen : ByteArray := prog_7_method_31_code
abbrev w_Mo_chosen : Cond := .code y_Mo_chosen c_Mo_chosen 2 (some .boolean)
set_option maxRecDepth 100000 in
theorem kc_Mo_chosen : w_Mo_chosen ∈ gt := gt_at 777 rfl (by decide +kernel)
def y_Mo_costs : MethodName := ⟨R_Mo, "costs", "(I)I"⟩
abbrev c_Mo_costs : ByteArray := prog_7_method_32_code
abbrev w_Mo_costs : Cond := .code y_Mo_costs c_Mo_costs 2 (some .int)
set_option maxRecDepth 100000 in
theorem kc_Mo_costs : w_Mo_costs ∈ gt := gt_at 781 rfl (by decide +kernel)
def y_Mo_lacks : MethodName := ⟨R_Mo, "lacks", "(I)I"⟩
abbrev c_Mo_lacks : ByteArray := prog_7_method_33_code
abbrev w_Mo_lacks : Cond := .code y_Mo_lacks c_Mo_lacks 3 (some .int)
set_option maxRecDepth 100000 in
theorem kc_Mo_lacks : w_Mo_lacks ∈ gt := gt_at 785 rfl (by decide +kernel)
def y_Mo_money : MethodName := ⟨R_Mo, "money", "(II)V"⟩
abbrev c_Mo_money : ByteArray := prog_7_method_34_code
abbrev w_Mo_money : Cond := .code y_Mo_money c_Mo_money 3 none
set_option maxRecDepth 100000 in
theorem kc_Mo_money : w_Mo_money ∈ gt := gt_at 789 rfl (by decide +kernel)
def y_Mo_reserveOf : MethodName := ⟨R_Mo, "reserveOf", "(I)J"⟩
abbrev c_Mo_reserveOf : ByteArray := prog_7_method_35_code
abbrev w_Mo_reserveOf : Cond := .code y_Mo_reserveOf c_Mo_reserveOf 6 (some .long)
set_option maxRecDepth 100000 in
theorem kc_Mo_reserveOf : w_Mo_reserveOf ∈ gt := gt_at 797 rfl (by decide +kernel)
def y_Mo_reserve : MethodName := ⟨R_Mo, "reserve", "(I)J"⟩
abbrev c_Mo_reserve : ByteArray := prog_7_method_36_code
abbrev w_Mo_reserve : Cond := .code y_Mo_reserve c_Mo_reserve 2 (some .long)
set_option maxRecDepth 100000 in
theorem kc_Mo_reserve : w_Mo_reserve ∈ gt := gt_at 793 rfl (by decide +kernel)
def y_Mo_shortIn : MethodName := ⟨R_Mo, "shortIn", "()I"⟩
abbrev c_Mo_shortIn : ByteArray := prog_7_method_37_code
abbrev w_Mo_shortIn : Cond := .code y_Mo_shortIn c_Mo_shortIn 2 (some .int)
set_option maxRecDepth 100000 in
theorem kc_Mo_shortIn : w_Mo_shortIn ∈ gt := gt_at 801 rfl (by decide +kernel)
def y_Mo_restOf : MethodName := ⟨R_Mo, "restOf", "(JIIJ)J"⟩
abbrev c_Mo_restOf : ByteArray := prog_7_method_38_code
abbrev w_Mo_restOf : Cond := .code y_Mo_restOf c_Mo_restOf 9 (some .long)
set_option maxRecDepth 100000 in
theorem kc_Mo_restOf : w_Mo_restOf ∈ gt := gt_at 816 rfl (by decide +kernel)
def y_Mo_paymentOf : MethodName := ⟨R_Mo, "paymentOf", "(III)J"⟩
abbrev c_Mo_paymentOf : ByteArray := prog_7_method_39_code
abbrev w_Mo_paymentOf : Cond := .code y_Mo_paymentOf c_Mo_paymentOf 10 (some .long)
set_option maxRecDepth 100000 in
theorem kc_Mo_paymentOf : w_Mo_paymentOf ∈ gt := gt_at 812 rfl (by decide +kernel)
def y_Mo_isLoan : MethodName := ⟨R_Mo, "isLoan", "(III)Z"⟩
abbrev c_Mo_isLoan : ByteArray := prog_7_method_40_code
abbrev w_Mo_isLoan : Cond := .code y_Mo_isLoan c_Mo_isLoan 3 (some .boolean)
set_option maxRecDepth 100000 in
theorem kc_Mo_isLoan : w_Mo_isLoan ∈ gt := gt_at 808 rfl (by decide +kernel)
def y_Mo_payment : MethodName := ⟨R_Mo, "payment", "(III)I"⟩
abbrev c_Mo_payment : ByteArray := prog_7_method_41_code
abbrev w_Mo_payment : Cond := .code y_Mo_payment c_Mo_payment 4 (some .int)
set_option maxRecDepth 100000 in
theorem kc_Mo_payment : w_Mo_payment ∈ gt := gt_at 805 rfl (by decide +kernel)
def y_Mo_rest : MethodName := ⟨R_Mo, "rest", "(IIII)I"⟩
abbrev c_Mo_rest : ByteArray := prog_7_method_42_code
abbrev w_Mo_rest : Cond := .code y_Mo_rest c_Mo_rest 5 (some .int)
set_option maxRecDepth 100000 in
theorem kc_Mo_rest : w_Mo_rest ∈ gt := gt_at 822 rfl (by decide +kernel)
def y_Lo_isOne : MethodName := ⟨R_Lo, "isOne", "(III)Z"⟩
abbrev c_Lo_isOne : ByteArray := prog_2_method_2_code
abbrev w_Lo_isOne : Cond := .code y_Lo_isOne c_Lo_isOne 3 (some .boolean)
set_option maxRecDepth 100000 in
theorem kc_Lo_isOne : w_Lo_isOne ∈ gt := gt_at 554 rfl (by decide +kernel)
def y_Lo_restBehind : MethodName := ⟨R_Lo, "restBehind", "(IIIJ)J"⟩
abbrev c_Lo_restBehind : ByteArray := prog_2_method_3_code
abbrev w_Lo_restBehind : Cond := .code y_Lo_restBehind c_Lo_restBehind 10 (some .long)
set_option maxRecDepth 100000 in
theorem kc_Lo_restBehind : w_Lo_restBehind ∈ gt := gt_at 562 rfl (by decide +kernel)
def y_Lo_leastPayment : MethodName := ⟨R_Lo, "leastPayment", "(III)I"⟩
abbrev c_Lo_leastPayment : ByteArray := prog_2_method_4_code
abbrev w_Lo_leastPayment : Cond := .code y_Lo_leastPayment c_Lo_leastPayment 8 (some .int)
set_option maxRecDepth 100000 in
theorem kc_Lo_leastPayment : w_Lo_leastPayment ∈ gt := gt_at 559 rfl (by decide +kernel)
def y_Pa_init : MethodName := ⟨R_Pa, "<init>", "()V"⟩
abbrev c_Pa_init : ByteArray := prog_3_method_1_code
abbrev w_Pa_init : Cond := .code y_Pa_init c_Pa_init 1 none
set_option maxRecDepth 100000 in
theorem kc_Pa_init : w_Pa_init ∈ gt := gt_at 81 rfl (by decide +kernel)
def y_Pa_has : MethodName := ⟨R_Pa, "has", "(I)Z"⟩
abbrev c_Pa_has : ByteArray := prog_3_method_2_code
abbrev w_Pa_has : Cond := .code y_Pa_has c_Pa_has 2 (some .boolean)
set_option maxRecDepth 100000 in
theorem kc_Pa_has : w_Pa_has ∈ gt := gt_at 439 rfl (by decide +kernel)
def y_Pa_hasState : MethodName := ⟨R_Pa, "hasState", "(II)Z"⟩
abbrev c_Pa_hasState : ByteArray := prog_3_method_3_code
abbrev w_Pa_hasState : Cond := .code y_Pa_hasState c_Pa_hasState 3 (some .boolean)
set_option maxRecDepth 100000 in
theorem kc_Pa_hasState : w_Pa_hasState ∈ gt := gt_at 435 rfl (by decide +kernel)
def y_Pa_add : MethodName := ⟨R_Pa, "add", "(II)I"⟩
abbrev c_Pa_add : ByteArray := prog_3_method_4_code
abbrev w_Pa_add : Cond := .code y_Pa_add c_Pa_add 5 (some .int)
set_option maxRecDepth 100000 in
theorem kc_Pa_add : w_Pa_add ∈ gt := gt_at 420 rfl (by decide +kernel)
def y_Pa_going : MethodName := ⟨R_Pa, "going", "(III)I"⟩
abbrev c_Pa_going : ByteArray := prog_3_method_5_code
abbrev w_Pa_going : Cond := .code y_Pa_going c_Pa_going 4 (some .int)
set_option maxRecDepth 100000 in
theorem kc_Pa_going : w_Pa_going ∈ gt := gt_at 285 rfl (by decide +kernel)
def y_Pa_setGoing : MethodName := ⟨R_Pa, "setGoing", "(IIII)V"⟩
abbrev c_Pa_setGoing : ByteArray := prog_3_method_6_code
abbrev w_Pa_setGoing : Cond := .code y_Pa_setGoing c_Pa_setGoing 5 none
set_option maxRecDepth 100000 in
theorem kc_Pa_setGoing : w_Pa_setGoing ∈ gt := gt_at 424 rfl (by decide +kernel)
def y_Pa_goTo : MethodName := ⟨R_Pa, "goTo", "(II)V"⟩
abbrev c_Pa_goTo : ByteArray := prog_3_method_7_code
abbrev w_Pa_goTo : Cond := .code y_Pa_goTo c_Pa_goTo 4 none
set_option maxRecDepth 100000 in
theorem kc_Pa_goTo : w_Pa_goTo ∈ gt := gt_at 459 rfl (by decide +kernel)
def y_Pa_enter : MethodName := ⟨R_Pa, "enter", "(II)V"⟩
abbrev c_Pa_enter : ByteArray := prog_3_method_8_code
abbrev w_Pa_enter : Cond := .code y_Pa_enter c_Pa_enter 3 none
set_option maxRecDepth 100000 in
theorem kc_Pa_enter : w_Pa_enter ∈ gt := gt_at 269 rfl (by decide +kernel)
def y_Pa_begin : MethodName := ⟨R_Pa, "begin", "(I)V"⟩
abbrev c_Pa_begin : ByteArray := prog_3_method_9_code
abbrev w_Pa_begin : Cond := .code y_Pa_begin c_Pa_begin 2 none
set_option maxRecDepth 100000 in
theorem kc_Pa_begin : w_Pa_begin ∈ gt := gt_at 274 rfl (by decide +kernel)
def y_Pa_wear : MethodName := ⟨R_Pa, "wear", "(I)V"⟩
abbrev c_Pa_wear : ByteArray := prog_3_method_10_code
abbrev w_Pa_wear : Cond := .code y_Pa_wear c_Pa_wear 6 none
set_option maxRecDepth 100000 in
theorem kc_Pa_wear : w_Pa_wear ∈ gt := gt_at 281 rfl (by decide +kernel)
def y_Pa_careTaken : MethodName := ⟨R_Pa, "careTaken", "(I)I"⟩
abbrev c_Pa_careTaken : ByteArray := prog_3_method_11_code
abbrev w_Pa_careTaken : Cond := .code y_Pa_careTaken c_Pa_careTaken 5 (some .int)
set_option maxRecDepth 100000 in
theorem kc_Pa_careTaken : w_Pa_careTaken ∈ gt := gt_at 292 rfl (by decide +kernel)
def y_Pa_greatestState : MethodName := ⟨R_Pa, "greatestState", "(I)I"⟩
abbrev c_Pa_greatestState : ByteArray := prog_3_method_12_code
abbrev w_Pa_greatestState : Cond := .code y_Pa_greatestState c_Pa_greatestState 4 (some .int)
set_option maxRecDepth 100000 in
theorem kc_Pa_greatestState : w_Pa_greatestState ∈ gt := gt_at 479 rfl (by decide +kernel)
def y_Wo_init : MethodName := ⟨R_Wo, "<init>", "(LCostYears$Years;)V"⟩
abbrev c_Wo_init : ByteArray := prog_4_method_1_code
abbrev w_Wo_init : Cond := .code y_Wo_init c_Wo_init 2 none
set_option maxRecDepth 100000 in
theorem kc_Wo_init : w_Wo_init ∈ gt := gt_at 122 rfl (by decide +kernel)
def y_Wo_has : MethodName := ⟨R_Wo, "has", "(I)Z"⟩
abbrev c_Wo_has : ByteArray := prog_4_method_2_code
abbrev w_Wo_has : Cond := .code y_Wo_has c_Wo_has 2 (some .boolean)
set_option maxRecDepth 100000 in
theorem kc_Wo_has : w_Wo_has ∈ gt := gt_at 502 rfl (by decide +kernel)
def y_Wo_all : MethodName := ⟨R_Wo, "all", "()I"⟩
abbrev c_Wo_all : ByteArray := prog_4_method_3_code
abbrev w_Wo_all : Cond := .code y_Wo_all c_Wo_all 1 (some .int)
set_option maxRecDepth 100000 in
theorem kc_Wo_all : w_Wo_all ∈ gt := gt_at 197 rfl (by decide +kernel)
def y_Wo_add : MethodName := ⟨R_Wo, "add", "(IIII)I"⟩
abbrev c_Wo_add : ByteArray := prog_4_method_4_code
abbrev w_Wo_add : Cond := .code y_Wo_add c_Wo_add 6 (some .int)
set_option maxRecDepth 100000 in
theorem kc_Wo_add : w_Wo_add ∈ gt := gt_at 491 rfl (by decide +kernel)
def y_Wo_worthOf : MethodName := ⟨R_Wo, "worthOf", "(I)I"⟩
abbrev c_Wo_worthOf : ByteArray := prog_4_method_5_code
abbrev w_Wo_worthOf : Cond := .code y_Wo_worthOf c_Wo_worthOf 4 (some .int)
set_option maxRecDepth 100000 in
theorem kc_Wo_worthOf : w_Wo_worthOf ∈ gt := gt_at 201 rfl (by decide +kernel)
def y_Wo_agree : MethodName := ⟨R_Wo, "agree", "(I)Z"⟩
abbrev c_Wo_agree : ByteArray := prog_4_method_6_code
abbrev w_Wo_agree : Cond := .code y_Wo_agree c_Wo_agree 3 (some .boolean)
set_option maxRecDepth 100000 in
theorem kc_Wo_agree : w_Wo_agree ∈ gt := gt_at 208 rfl (by decide +kernel)
def y_Wo_lacksNeeded : MethodName := ⟨R_Wo, "lacksNeeded", "(II)Z"⟩
abbrev c_Wo_lacksNeeded : ByteArray := prog_4_method_7_code
abbrev w_Wo_lacksNeeded : Cond := .code y_Wo_lacksNeeded c_Wo_lacksNeeded 4 (some .boolean)
set_option maxRecDepth 100000 in
theorem kc_Wo_lacksNeeded : w_Wo_lacksNeeded ∈ gt := gt_at 212 rfl (by decide +kernel)
def y_Wo_spend : MethodName := ⟨R_Wo, "spend", "(I)V"⟩
abbrev c_Wo_spend : ByteArray := prog_4_method_8_code
abbrev w_Wo_spend : Cond := .code y_Wo_spend c_Wo_spend 4 none
set_option maxRecDepth 100000 in
theorem kc_Wo_spend : w_Wo_spend ∈ gt := gt_at 216 rfl (by decide +kernel)
def y_Wo_savedWithEarlier : MethodName := ⟨R_Wo, "savedWithEarlier", "(II)I"⟩
abbrev c_Wo_savedWithEarlier : ByteArray := prog_4_method_9_code
abbrev w_Wo_savedWithEarlier : Cond := .code y_Wo_savedWithEarlier c_Wo_savedWithEarlier 5 (some .int)
set_option maxRecDepth 100000 in
theorem kc_Wo_savedWithEarlier : w_Wo_savedWithEarlier ∈ gt := gt_at 226 rfl (by decide +kernel)
def y_Wo_spentOverBudgets : MethodName := ⟨R_Wo, "spentOverBudgets", "()I"⟩
abbrev c_Wo_spentOverBudgets : ByteArray := prog_4_method_10_code
abbrev w_Wo_spentOverBudgets : Cond := .code y_Wo_spentOverBudgets c_Wo_spentOverBudgets 3 (some .int)
set_option maxRecDepth 100000 in
theorem kc_Wo_spentOverBudgets : w_Wo_spentOverBudgets ∈ gt := gt_at 235 rfl (by decide +kernel)
def y_Wo_spentInAll : MethodName := ⟨R_Wo, "spentInAll", "()I"⟩
abbrev c_Wo_spentInAll : ByteArray := prog_4_method_11_code
abbrev w_Wo_spentInAll : Cond := .code y_Wo_spentInAll c_Wo_spentInAll 3 (some .int)
set_option maxRecDepth 100000 in
theorem kc_Wo_spentInAll : w_Wo_spentInAll ∈ gt := gt_at 231 rfl (by decide +kernel)
def y_Wo_makeChoice : MethodName := ⟨R_Wo, "makeChoice", "()V"⟩
abbrev c_Wo_makeChoice : ByteArray := prog_4_method_12_code
abbrev w_Wo_makeChoice : Cond := .code y_Wo_makeChoice c_Wo_makeChoice 9 none
set_option maxRecDepth 100000 in
theorem kc_Wo_makeChoice : w_Wo_makeChoice ∈ gt := gt_at 193 rfl (by decide +kernel)
def y_Ye_init : MethodName := ⟨R_Ye, "<init>", "(I)V"⟩
abbrev c_Ye_init : ByteArray := prog_5_method_1_code
abbrev w_Ye_init : Cond := .code y_Ye_init c_Ye_init 2 none
set_option maxRecDepth 100000 in
theorem kc_Ye_init : w_Ye_init ∈ gt := gt_at 56 rfl (by decide +kernel)
def y_Ye_has : MethodName := ⟨R_Ye, "has", "(I)Z"⟩
abbrev c_Ye_has : ByteArray := prog_5_method_2_code
abbrev w_Ye_has : Cond := .code y_Ye_has c_Ye_has 2 (some .boolean)
set_option maxRecDepth 100000 in
theorem kc_Ye_has : w_Ye_has ∈ gt := gt_at 308 rfl (by decide +kernel)
def y_Ye_costIn : MethodName := ⟨R_Ye, "costIn", "(II)I"⟩
abbrev c_Ye_costIn : ByteArray := prog_5_method_3_code
abbrev w_Ye_costIn : Cond := .code y_Ye_costIn c_Ye_costIn 3 (some .int)
set_option maxRecDepth 100000 in
theorem kc_Ye_costIn : w_Ye_costIn ∈ gt := gt_at 221 rfl (by decide +kernel)
def y_La_cell : MethodName := ⟨R_La, "cell", "([II)I"⟩
abbrev c_La_cell : ByteArray := method_2_code
abbrev w_La_cell : Cond := .code y_La_cell c_La_cell 2 (some .int)
set_option maxRecDepth 100000 in
theorem kc_La_cell : w_La_cell ∈ gt := gt_at 296 rfl (by decide +kernel)
def y_La_index : MethodName := ⟨R_La, "index", "(LCostYears;II[J)I"⟩
abbrev c_La_index : ByteArray := method_3_code
abbrev w_La_index : Cond := .codeWith y_La_index c_La_index 5 (some .int) [(0, 10, 13, 13)]
set_option maxRecDepth 100000 in
theorem kc_La_index : w_La_index ∈ gt := gt_at 299 rfl (by decide +kernel)
def y_La_budget : MethodName := ⟨R_La, "budget", "(LCostYears;II[J)I"⟩
abbrev c_La_budget : ByteArray := method_4_code
abbrev w_La_budget : Cond := .codeWith y_La_budget c_La_budget 5 (some .int) [(0, 10, 13, 13)]
set_option maxRecDepth 100000 in
theorem kc_La_budget : w_La_budget ∈ gt := gt_at 384 rfl (by decide +kernel)
def y_La_part : MethodName := ⟨R_La, "part", "(LCostYears;II[J)I"⟩
abbrev c_La_part : ByteArray := method_5_code
abbrev w_La_part : Cond := .codeWith y_La_part c_La_part 5 (some .int) [(0, 10, 13, 13), (0, 10, 17, 21)]
set_option maxRecDepth 100000 in
theorem kc_La_part : w_La_part ∈ gt := gt_at 392 rfl (by decide +kernel)
def y_La_moves : MethodName := ⟨R_La, "moves", "(LCostYears;IIII[J)I"⟩
abbrev c_La_moves : ByteArray := method_6_code
abbrev w_La_moves : Cond := .codeWith y_La_moves c_La_moves 7 (some .int) [(0, 14, 17, 13)]
set_option maxRecDepth 100000 in
theorem kc_La_moves : w_La_moves ∈ gt := gt_at 427 rfl (by decide +kernel)
def y_La_care : MethodName := ⟨R_La, "care", "(LCostYears;III[J)I"⟩
abbrev c_La_care : ByteArray := method_7_code
abbrev w_La_care : Cond := .codeWith y_La_care c_La_care 6 (some .int) [(0, 12, 15, 13)]
set_option maxRecDepth 100000 in
theorem kc_La_care : w_La_care ∈ gt := gt_at 444 rfl (by decide +kernel)
def y_La_share : MethodName := ⟨R_La, "share", "(LCostYears;III[J)I"⟩
abbrev c_La_share : ByteArray := method_8_code
abbrev w_La_share : Cond := .codeWith y_La_share c_La_share 6 (some .int) [(0, 11, 14, 13)]
set_option maxRecDepth 100000 in
theorem kc_La_share : w_La_share ∈ gt := gt_at 451 rfl (by decide +kernel)
def y_La_cares : MethodName := ⟨R_La, "cares", "(LCostYears;II[J)I"⟩
abbrev c_La_cares : ByteArray := method_9_code
abbrev w_La_cares : Cond := .codeWith y_La_cares c_La_cares 5 (some .int) [(0, 10, 13, 13)]
set_option maxRecDepth 100000 in
theorem kc_La_cares : w_La_cares ∈ gt := gt_at 463 rfl (by decide +kernel)
def y_La_most : MethodName := ⟨R_La, "most", "(LCostYears;II[J)I"⟩
abbrev c_La_most : ByteArray := method_10_code
abbrev w_La_most : Cond := .codeWith y_La_most c_La_most 5 (some .int) [(0, 10, 13, 13)]
set_option maxRecDepth 100000 in
theorem kc_La_most : w_La_most ∈ gt := gt_at 471 rfl (by decide +kernel)
def y_La_work : MethodName := ⟨R_La, "work", "(LCostYears;IIII[J)I"⟩
abbrev c_La_work : ByteArray := method_11_code
abbrev w_La_work : Cond := .codeWith y_La_work c_La_work 7 (some .int) [(0, 14, 17, 13), (0, 14, 21, 21)]
set_option maxRecDepth 100000 in
theorem kc_La_work : w_La_work ∈ gt := gt_at 482 rfl (by decide +kernel)
def y_La_join : MethodName := ⟨R_La, "join", "(LCostYears;III[J)I"⟩
abbrev c_La_join : ByteArray := method_12_code
abbrev w_La_join : Cond := .codeWith y_La_join c_La_join 6 (some .int) [(0, 12, 15, 13)]
set_option maxRecDepth 100000 in
theorem kc_La_join : w_La_join ∈ gt := gt_at 494 rfl (by decide +kernel)
def y_La_clash : MethodName := ⟨R_La, "clash", "(LCostYears;IIZ[J)I"⟩
abbrev c_La_clash : ByteArray := method_13_code
abbrev w_La_clash : Cond := .codeWith y_La_clash c_La_clash 6 (some .int) [(0, 19, 22, 13)]
set_option maxRecDepth 100000 in
theorem kc_La_clash : w_La_clash ∈ gt := gt_at 505 rfl (by decide +kernel)
def y_La_needs : MethodName := ⟨R_La, "needs", "(LCostYears;II[J)I"⟩
abbrev c_La_needs : ByteArray := method_14_code
abbrev w_La_needs : Cond := .codeWith y_La_needs c_La_needs 5 (some .int) [(0, 10, 13, 13)]
set_option maxRecDepth 100000 in
theorem kc_La_needs : w_La_needs ∈ gt := gt_at 512 rfl (by decide +kernel)
def y_La_chosen : MethodName := ⟨R_La, "chosen", "(LCostYears;I[J)I"⟩
abbrev c_La_chosen : ByteArray := method_15_code
abbrev w_La_chosen : Cond := .codeWith y_La_chosen c_La_chosen 4 (some .int) [(0, 16, 19, 13)]
set_option maxRecDepth 100000 in
theorem kc_La_chosen : w_La_chosen ∈ gt := gt_at 519 rfl (by decide +kernel)
def y_La_costs : MethodName := ⟨R_La, "costs", "(LCostYears;I[J)I"⟩
abbrev c_La_costs : ByteArray := method_16_code
abbrev w_La_costs : Cond := .codeWith y_La_costs c_La_costs 4 (some .int) [(0, 9, 12, 13)]
set_option maxRecDepth 100000 in
theorem kc_La_costs : w_La_costs ∈ gt := gt_at 526 rfl (by decide +kernel)
def y_La_money : MethodName := ⟨R_La, "money", "(LCostYears;II)I"⟩
abbrev c_La_money : ByteArray := method_17_code
abbrev w_La_money : Cond := .codeWith y_La_money c_La_money 4 (some .int) [(0, 6, 9, 13)]
set_option maxRecDepth 100000 in
theorem kc_La_money : w_La_money ∈ gt := gt_at 533 rfl (by decide +kernel)
def y_La_reserve : MethodName := ⟨R_La, "reserve", "(LCostYears;I[J)I"⟩
abbrev c_La_reserve : ByteArray := method_18_code
abbrev w_La_reserve : Cond := .codeWith y_La_reserve c_La_reserve 4 (some .int) [(0, 8, 11, 13)]
set_option maxRecDepth 100000 in
theorem kc_La_reserve : w_La_reserve ∈ gt := gt_at 540 rfl (by decide +kernel)
def y_La_payment : MethodName := ⟨R_La, "payment", "(LCostYears;III[J)I"⟩
abbrev c_La_payment : ByteArray := method_19_code
abbrev w_La_payment : Cond := .codeWith y_La_payment c_La_payment 6 (some .int) [(0, 12, 15, 13)]
set_option maxRecDepth 100000 in
theorem kc_La_payment : w_La_payment ∈ gt := gt_at 547 rfl (by decide +kernel)
def y_La_rest : MethodName := ⟨R_La, "rest", "(LCostYears;IIII[J)I"⟩
abbrev c_La_rest : ByteArray := method_20_code
abbrev w_La_rest : Cond := .codeWith y_La_rest c_La_rest 7 (some .int) [(0, 14, 17, 13)]
set_option maxRecDepth 100000 in
theorem kc_La_rest : w_La_rest ∈ gt := gt_at 569 rfl (by decide +kernel)
def y_Ar_fillI : MethodName := ⟨R_Ar, "fill", "([II)V"⟩
abbrev c_Ar_fillI : ByteArray := prog_16_method_103_code
abbrev w_Ar_fillI : Cond := .code y_Ar_fillI c_Ar_fillI 4 none
set_option maxRecDepth 100000 in
theorem kc_Ar_fillI : w_Ar_fillI ∈ gt := gt_at 60 rfl (by decide +kernel)
def y_Ar_fillJ : MethodName := ⟨R_Ar, "fill", "([JJ)V"⟩
abbrev c_Ar_fillJ : ByteArray := prog_16_method_101_code
abbrev w_Ar_fillJ : Cond := .code y_Ar_fillJ c_Ar_fillJ 5 none
set_option maxRecDepth 100000 in
theorem kc_Ar_fillJ : w_Ar_fillJ ∈ gt := gt_at 277 rfl (by decide +kernel)
def y_Ma_maxI : MethodName := ⟨R_Ma, "max", "(II)I"⟩
abbrev c_Ma_maxI : ByteArray := prog_11_method_65_code
abbrev w_Ma_maxI : Cond := .code y_Ma_maxI c_Ma_maxI 2 (some .int)
set_option maxRecDepth 100000 in
theorem kc_Ma_maxI : w_Ma_maxI ∈ gt := gt_at 53 rfl (by decide +kernel)
def y_Ma_minI : MethodName := ⟨R_Ma, "min", "(II)I"⟩
abbrev c_Ma_minI : ByteArray := prog_11_method_69_code
abbrev w_Ma_minI : Cond := .code y_Ma_minI c_Ma_minI 2 (some .int)
set_option maxRecDepth 100000 in
theorem kc_Ma_minI : w_Ma_minI ∈ gt := gt_at 50 rfl (by decide +kernel)
def y_Ma_maxJ : MethodName := ⟨R_Ma, "max", "(JJ)J"⟩
abbrev c_Ma_maxJ : ByteArray := prog_11_method_66_code
abbrev w_Ma_maxJ : Cond := .code y_Ma_maxJ c_Ma_maxJ 4 (some .long)
set_option maxRecDepth 100000 in
theorem kc_Ma_maxJ : w_Ma_maxJ ∈ gt := gt_at 566 rfl (by decide +kernel)
theorem kn_CY : Cond.initialized R_CY ∈ gt := gt_at 24 (by decide +kernel) (by decide +kernel)
theorem kn_Lo : Cond.initialized R_Lo ∈ gt := gt_at 37 (by decide +kernel) (by decide +kernel)
theorem kn_Pa : Cond.initialized R_Pa ∈ gt := gt_at 28 (by decide +kernel) (by decide +kernel)
theorem kn_Wo : Cond.initialized R_Wo ∈ gt := gt_at 29 (by decide +kernel) (by decide +kernel)
theorem kn_Ye : Cond.initialized R_Ye ∈ gt := gt_at 25 (by decide +kernel) (by decide +kernel)
theorem kn_Mo : Cond.initialized R_Mo ∈ gt := gt_at 30 (by decide +kernel) (by decide +kernel)
theorem kn_La : Cond.initialized R_La ∈ gt := gt_at 23 (by decide +kernel) (by decide +kernel)
theorem kn_Ar : Cond.initialized R_Ar ∈ gt := gt_at 27 (by decide +kernel) (by decide +kernel)
theorem kn_Ma : Cond.initialized R_Ma ∈ gt := gt_at 26 (by decide +kernel) (by decide +kernel)
theorem ki_CY_init : Cond.instanceMethod y_CY_init ∈ gt := gt_at 41 (by decide +kernel) (by decide +kernel)
theorem ki_CY_index : Cond.instanceMethod y_CY_index ∈ gt := gt_at 302 (by decide +kernel) (by decide +kernel)
theorem kv_CY_index : Cond.selects R_CY y_CY_index y_CY_index ∈ gt := gt_at 303 (by decide +kernel) (by decide +kernel)
theorem ki_CY_budget : Cond.instanceMethod y_CY_budget ∈ gt := gt_at 386 (by decide +kernel) (by decide +kernel)
theorem kv_CY_budget : Cond.selects R_CY y_CY_budget y_CY_budget ∈ gt := gt_at 387 (by decide +kernel) (by decide +kernel)
theorem ki_CY_part : Cond.instanceMethod y_CY_part ∈ gt := gt_at 395 (by decide +kernel) (by decide +kernel)
theorem kv_CY_part : Cond.selects R_CY y_CY_part y_CY_part ∈ gt := gt_at 396 (by decide +kernel) (by decide +kernel)
theorem ki_CY_moves : Cond.instanceMethod y_CY_moves ∈ gt := gt_at 429 (by decide +kernel) (by decide +kernel)
theorem kv_CY_moves : Cond.selects R_CY y_CY_moves y_CY_moves ∈ gt := gt_at 430 (by decide +kernel) (by decide +kernel)
theorem ki_CY_care : Cond.instanceMethod y_CY_care ∈ gt := gt_at 446 (by decide +kernel) (by decide +kernel)
theorem kv_CY_care : Cond.selects R_CY y_CY_care y_CY_care ∈ gt := gt_at 447 (by decide +kernel) (by decide +kernel)
theorem ki_CY_share : Cond.instanceMethod y_CY_share ∈ gt := gt_at 453 (by decide +kernel) (by decide +kernel)
theorem kv_CY_share : Cond.selects R_CY y_CY_share y_CY_share ∈ gt := gt_at 454 (by decide +kernel) (by decide +kernel)
theorem ki_CY_cares : Cond.instanceMethod y_CY_cares ∈ gt := gt_at 465 (by decide +kernel) (by decide +kernel)
theorem kv_CY_cares : Cond.selects R_CY y_CY_cares y_CY_cares ∈ gt := gt_at 466 (by decide +kernel) (by decide +kernel)
theorem ki_CY_most : Cond.instanceMethod y_CY_most ∈ gt := gt_at 473 (by decide +kernel) (by decide +kernel)
theorem kv_CY_most : Cond.selects R_CY y_CY_most y_CY_most ∈ gt := gt_at 474 (by decide +kernel) (by decide +kernel)
theorem ki_CY_work : Cond.instanceMethod y_CY_work ∈ gt := gt_at 484 (by decide +kernel) (by decide +kernel)
theorem kv_CY_work : Cond.selects R_CY y_CY_work y_CY_work ∈ gt := gt_at 485 (by decide +kernel) (by decide +kernel)
theorem ki_CY_join : Cond.instanceMethod y_CY_join ∈ gt := gt_at 496 (by decide +kernel) (by decide +kernel)
theorem kv_CY_join : Cond.selects R_CY y_CY_join y_CY_join ∈ gt := gt_at 497 (by decide +kernel) (by decide +kernel)
theorem ki_CY_clash : Cond.instanceMethod y_CY_clash ∈ gt := gt_at 507 (by decide +kernel) (by decide +kernel)
theorem kv_CY_clash : Cond.selects R_CY y_CY_clash y_CY_clash ∈ gt := gt_at 508 (by decide +kernel) (by decide +kernel)
theorem ki_CY_needs : Cond.instanceMethod y_CY_needs ∈ gt := gt_at 514 (by decide +kernel) (by decide +kernel)
theorem kv_CY_needs : Cond.selects R_CY y_CY_needs y_CY_needs ∈ gt := gt_at 515 (by decide +kernel) (by decide +kernel)
theorem ki_CY_choose : Cond.instanceMethod y_CY_choose ∈ gt := gt_at 187 (by decide +kernel) (by decide +kernel)
theorem kv_CY_choose : Cond.selects R_CY y_CY_choose y_CY_choose ∈ gt := gt_at 188 (by decide +kernel) (by decide +kernel)
theorem ki_CY_chosen : Cond.instanceMethod y_CY_chosen ∈ gt := gt_at 521 (by decide +kernel) (by decide +kernel)
theorem kv_CY_chosen : Cond.selects R_CY y_CY_chosen y_CY_chosen ∈ gt := gt_at 522 (by decide +kernel) (by decide +kernel)
theorem ki_CY_costs : Cond.instanceMethod y_CY_costs ∈ gt := gt_at 528 (by decide +kernel) (by decide +kernel)
theorem kv_CY_costs : Cond.selects R_CY y_CY_costs y_CY_costs ∈ gt := gt_at 529 (by decide +kernel) (by decide +kernel)
theorem ki_CY_lacks : Cond.instanceMethod y_CY_lacks ∈ gt := gt_at 247 (by decide +kernel) (by decide +kernel)
theorem kv_CY_lacks : Cond.selects R_CY y_CY_lacks y_CY_lacks ∈ gt := gt_at 248 (by decide +kernel) (by decide +kernel)
theorem ki_CY_money : Cond.instanceMethod y_CY_money ∈ gt := gt_at 535 (by decide +kernel) (by decide +kernel)
theorem kv_CY_money : Cond.selects R_CY y_CY_money y_CY_money ∈ gt := gt_at 536 (by decide +kernel) (by decide +kernel)
theorem ki_CY_reserve : Cond.instanceMethod y_CY_reserve ∈ gt := gt_at 542 (by decide +kernel) (by decide +kernel)
theorem kv_CY_reserve : Cond.selects R_CY y_CY_reserve y_CY_reserve ∈ gt := gt_at 543 (by decide +kernel) (by decide +kernel)
theorem ki_CY_shortIn : Cond.instanceMethod y_CY_shortIn ∈ gt := gt_at 255 (by decide +kernel) (by decide +kernel)
theorem kv_CY_shortIn : Cond.selects R_CY y_CY_shortIn y_CY_shortIn ∈ gt := gt_at 256 (by decide +kernel) (by decide +kernel)
theorem ki_CY_payment : Cond.instanceMethod y_CY_payment ∈ gt := gt_at 549 (by decide +kernel) (by decide +kernel)
theorem kv_CY_payment : Cond.selects R_CY y_CY_payment y_CY_payment ∈ gt := gt_at 550 (by decide +kernel) (by decide +kernel)
theorem ki_CY_rest : Cond.instanceMethod y_CY_rest ∈ gt := gt_at 571 (by decide +kernel) (by decide +kernel)
theorem kv_CY_rest : Cond.selects R_CY y_CY_rest y_CY_rest ∈ gt := gt_at 572 (by decide +kernel) (by decide +kernel)
theorem ks_CY_refuseUnless : Cond.static y_CY_refuseUnless ∈ gt := gt_at 313 (by decide +kernel) (by decide +kernel)
theorem ks_CY_refuseIfFull : Cond.static y_CY_refuseIfFull ∈ gt := gt_at 399 (by decide +kernel) (by decide +kernel)
theorem ks_CY_isWithin : Cond.static y_CY_isWithin ∈ gt := gt_at 310 (by decide +kernel) (by decide +kernel)
theorem ks_CY_holds : Cond.static y_CY_holds ∈ gt := gt_at 203 (by decide +kernel) (by decide +kernel)
theorem ks_CY_withBit : Cond.static y_CY_withBit ∈ gt := gt_at 243 (by decide +kernel) (by decide +kernel)
theorem ki_CY_renewParts : Cond.instanceMethod y_CY_renewParts ∈ gt := gt_at 238 (by decide +kernel) (by decide +kernel)
theorem kv_CY_renewParts : Cond.selects R_CY y_CY_renewParts y_CY_renewParts ∈ gt := gt_at 3 (by decide +kernel) (by decide +kernel)
theorem ki_CY_reckonReserves : Cond.instanceMethod y_CY_reckonReserves ∈ gt := gt_at 260 (by decide +kernel) (by decide +kernel)
theorem kv_CY_reckonReserves : Cond.selects R_CY y_CY_reckonReserves y_CY_reckonReserves ∈ gt := gt_at 4 (by decide +kernel) (by decide +kernel)
theorem ki_CY_takeCareFromReserves : Cond.instanceMethod y_CY_takeCareFromReserves ∈ gt := gt_at 264 (by decide +kernel) (by decide +kernel)
theorem kv_CY_takeCareFromReserves : Cond.selects R_CY y_CY_takeCareFromReserves y_CY_takeCareFromReserves ∈ gt := gt_at 5 (by decide +kernel) (by decide +kernel)
theorem ki_Mo_init : Cond.instanceMethod y_Mo_init ∈ gt := gt_at 578 (by decide +kernel) (by decide +kernel)
theorem ki_Mo_thrown : Cond.instanceMethod y_Mo_thrown ∈ gt := gt_at 653 (by decide +kernel) (by decide +kernel)
theorem kv_Mo_thrown : Cond.selects R_Mo y_Mo_thrown y_Mo_thrown ∈ gt := gt_at 654 (by decide +kernel) (by decide +kernel)
theorem ki_Mo_refuses : Cond.instanceMethod y_Mo_refuses ∈ gt := gt_at 671 (by decide +kernel) (by decide +kernel)
theorem kv_Mo_refuses : Cond.selects R_Mo y_Mo_refuses y_Mo_refuses ∈ gt := gt_at 10 (by decide +kernel) (by decide +kernel)
theorem ks_Mo_within : Cond.static y_Mo_within ∈ gt := gt_at 665 (by decide +kernel) (by decide +kernel)
theorem ki_Mo_isYear : Cond.instanceMethod y_Mo_isYear ∈ gt := gt_at 662 (by decide +kernel) (by decide +kernel)
theorem kv_Mo_isYear : Cond.selects R_Mo y_Mo_isYear y_Mo_isYear ∈ gt := gt_at 9 (by decide +kernel) (by decide +kernel)
theorem ki_Mo_isPart : Cond.instanceMethod y_Mo_isPart ∈ gt := gt_at 694 (by decide +kernel) (by decide +kernel)
theorem kv_Mo_isPart : Cond.selects R_Mo y_Mo_isPart y_Mo_isPart ∈ gt := gt_at 12 (by decide +kernel) (by decide +kernel)
theorem ki_Mo_isState : Cond.instanceMethod y_Mo_isState ∈ gt := gt_at 690 (by decide +kernel) (by decide +kernel)
theorem kv_Mo_isState : Cond.selects R_Mo y_Mo_isState y_Mo_isState ∈ gt := gt_at 11 (by decide +kernel) (by decide +kernel)
theorem ki_Mo_isWork : Cond.instanceMethod y_Mo_isWork ∈ gt := gt_at 745 (by decide +kernel) (by decide +kernel)
theorem kv_Mo_isWork : Cond.selects R_Mo y_Mo_isWork y_Mo_isWork ∈ gt := gt_at 18 (by decide +kernel) (by decide +kernel)
theorem ki_Mo_index : Cond.instanceMethod y_Mo_index ∈ gt := gt_at 657 (by decide +kernel) (by decide +kernel)
theorem kv_Mo_index : Cond.selects R_Mo y_Mo_index y_Mo_index ∈ gt := gt_at 658 (by decide +kernel) (by decide +kernel)
theorem ki_Mo_budget : Cond.instanceMethod y_Mo_budget ∈ gt := gt_at 674 (by decide +kernel) (by decide +kernel)
theorem kv_Mo_budget : Cond.selects R_Mo y_Mo_budget y_Mo_budget ∈ gt := gt_at 675 (by decide +kernel) (by decide +kernel)
theorem ki_Mo_part : Cond.instanceMethod y_Mo_part ∈ gt := gt_at 679 (by decide +kernel) (by decide +kernel)
theorem kv_Mo_part : Cond.selects R_Mo y_Mo_part y_Mo_part ∈ gt := gt_at 680 (by decide +kernel) (by decide +kernel)
theorem ki_Mo_leaving : Cond.instanceMethod y_Mo_leaving ∈ gt := gt_at 699 (by decide +kernel) (by decide +kernel)
theorem kv_Mo_leaving : Cond.selects R_Mo y_Mo_leaving y_Mo_leaving ∈ gt := gt_at 13 (by decide +kernel) (by decide +kernel)
theorem ki_Mo_moves : Cond.instanceMethod y_Mo_moves ∈ gt := gt_at 685 (by decide +kernel) (by decide +kernel)
theorem kv_Mo_moves : Cond.selects R_Mo y_Mo_moves y_Mo_moves ∈ gt := gt_at 686 (by decide +kernel) (by decide +kernel)
theorem ki_Mo_care : Cond.instanceMethod y_Mo_care ∈ gt := gt_at 702 (by decide +kernel) (by decide +kernel)
theorem kv_Mo_care : Cond.selects R_Mo y_Mo_care y_Mo_care ∈ gt := gt_at 703 (by decide +kernel) (by decide +kernel)
theorem ki_Mo_begins : Cond.instanceMethod y_Mo_begins ∈ gt := gt_at 716 (by decide +kernel) (by decide +kernel)
theorem kv_Mo_begins : Cond.selects R_Mo y_Mo_begins y_Mo_begins ∈ gt := gt_at 15 (by decide +kernel) (by decide +kernel)
theorem ki_Mo_learn : Cond.instanceMethod y_Mo_learn ∈ gt := gt_at 712 (by decide +kernel) (by decide +kernel)
theorem kv_Mo_learn : Cond.selects R_Mo y_Mo_learn y_Mo_learn ∈ gt := gt_at 14 (by decide +kernel) (by decide +kernel)
theorem ki_Mo_share : Cond.instanceMethod y_Mo_share ∈ gt := gt_at 707 (by decide +kernel) (by decide +kernel)
theorem kv_Mo_share : Cond.selects R_Mo y_Mo_share y_Mo_share ∈ gt := gt_at 708 (by decide +kernel) (by decide +kernel)
theorem ki_Mo_careOf : Cond.instanceMethod y_Mo_careOf ∈ gt := gt_at 724 (by decide +kernel) (by decide +kernel)
theorem kv_Mo_careOf : Cond.selects R_Mo y_Mo_careOf y_Mo_careOf ∈ gt := gt_at 16 (by decide +kernel) (by decide +kernel)
theorem ki_Mo_cares : Cond.instanceMethod y_Mo_cares ∈ gt := gt_at 719 (by decide +kernel) (by decide +kernel)
theorem kv_Mo_cares : Cond.selects R_Mo y_Mo_cares y_Mo_cares ∈ gt := gt_at 720 (by decide +kernel) (by decide +kernel)
theorem ki_Mo_most : Cond.instanceMethod y_Mo_most ∈ gt := gt_at 727 (by decide +kernel) (by decide +kernel)
theorem kv_Mo_most : Cond.selects R_Mo y_Mo_most y_Mo_most ∈ gt := gt_at 728 (by decide +kernel) (by decide +kernel)
theorem ki_Mo_work : Cond.instanceMethod y_Mo_work ∈ gt := gt_at 731 (by decide +kernel) (by decide +kernel)
theorem kv_Mo_work : Cond.selects R_Mo y_Mo_work y_Mo_work ∈ gt := gt_at 732 (by decide +kernel) (by decide +kernel)
theorem ki_Mo_areTwo : Cond.instanceMethod y_Mo_areTwo ∈ gt := gt_at 741 (by decide +kernel) (by decide +kernel)
theorem kv_Mo_areTwo : Cond.selects R_Mo y_Mo_areTwo y_Mo_areTwo ∈ gt := gt_at 17 (by decide +kernel) (by decide +kernel)
theorem ki_Mo_join : Cond.instanceMethod y_Mo_join ∈ gt := gt_at 736 (by decide +kernel) (by decide +kernel)
theorem kv_Mo_join : Cond.selects R_Mo y_Mo_join y_Mo_join ∈ gt := gt_at 737 (by decide +kernel) (by decide +kernel)
theorem ki_Mo_clash : Cond.instanceMethod y_Mo_clash ∈ gt := gt_at 748 (by decide +kernel) (by decide +kernel)
theorem kv_Mo_clash : Cond.selects R_Mo y_Mo_clash y_Mo_clash ∈ gt := gt_at 749 (by decide +kernel) (by decide +kernel)
theorem ki_Mo_needs : Cond.instanceMethod y_Mo_needs ∈ gt := gt_at 752 (by decide +kernel) (by decide +kernel)
theorem kv_Mo_needs : Cond.selects R_Mo y_Mo_needs y_Mo_needs ∈ gt := gt_at 753 (by decide +kernel) (by decide +kernel)
theorem ks_Mo_has : Cond.static y_Mo_has ∈ gt := gt_at 760 (by decide +kernel) (by decide +kernel)
theorem ki_Mo_goesTogether : Cond.instanceMethod y_Mo_goesTogether ∈ gt := gt_at 764 (by decide +kernel) (by decide +kernel)
theorem kv_Mo_goesTogether : Cond.selects R_Mo y_Mo_goesTogether y_Mo_goesTogether ∈ gt := gt_at 19 (by decide +kernel) (by decide +kernel)
theorem ki_Mo_costOf : Cond.instanceMethod y_Mo_costOf ∈ gt := gt_at 772 (by decide +kernel) (by decide +kernel)
theorem kv_Mo_costOf : Cond.selects R_Mo y_Mo_costOf y_Mo_costOf ∈ gt := gt_at 21 (by decide +kernel) (by decide +kernel)
theorem ki_Mo_lackOf : Cond.instanceMethod y_Mo_lackOf ∈ gt := gt_at 768 (by decide +kernel) (by decide +kernel)
theorem kv_Mo_lackOf : Cond.selects R_Mo y_Mo_lackOf y_Mo_lackOf ∈ gt := gt_at 20 (by decide +kernel) (by decide +kernel)
theorem ki_Mo_choose : Cond.instanceMethod y_Mo_choose ∈ gt := gt_at 756 (by decide +kernel) (by decide +kernel)
theorem kv_Mo_choose : Cond.selects R_Mo y_Mo_choose y_Mo_choose ∈ gt := gt_at 757 (by decide +kernel) (by decide +kernel)
theorem ki_Mo_chosen : Cond.instanceMethod y_Mo_chosen ∈ gt := gt_at 775 (by decide +kernel) (by decide +kernel)
theorem kv_Mo_chosen : Cond.selects R_Mo y_Mo_chosen y_Mo_chosen ∈ gt := gt_at 776 (by decide +kernel) (by decide +kernel)
theorem ki_Mo_costs : Cond.instanceMethod y_Mo_costs ∈ gt := gt_at 779 (by decide +kernel) (by decide +kernel)
theorem kv_Mo_costs : Cond.selects R_Mo y_Mo_costs y_Mo_costs ∈ gt := gt_at 780 (by decide +kernel) (by decide +kernel)
theorem ki_Mo_lacks : Cond.instanceMethod y_Mo_lacks ∈ gt := gt_at 783 (by decide +kernel) (by decide +kernel)
theorem kv_Mo_lacks : Cond.selects R_Mo y_Mo_lacks y_Mo_lacks ∈ gt := gt_at 784 (by decide +kernel) (by decide +kernel)
theorem ki_Mo_money : Cond.instanceMethod y_Mo_money ∈ gt := gt_at 787 (by decide +kernel) (by decide +kernel)
theorem kv_Mo_money : Cond.selects R_Mo y_Mo_money y_Mo_money ∈ gt := gt_at 788 (by decide +kernel) (by decide +kernel)
theorem ki_Mo_reserveOf : Cond.instanceMethod y_Mo_reserveOf ∈ gt := gt_at 796 (by decide +kernel) (by decide +kernel)
theorem kv_Mo_reserveOf : Cond.selects R_Mo y_Mo_reserveOf y_Mo_reserveOf ∈ gt := gt_at 22 (by decide +kernel) (by decide +kernel)
theorem ki_Mo_reserve : Cond.instanceMethod y_Mo_reserve ∈ gt := gt_at 791 (by decide +kernel) (by decide +kernel)
theorem kv_Mo_reserve : Cond.selects R_Mo y_Mo_reserve y_Mo_reserve ∈ gt := gt_at 792 (by decide +kernel) (by decide +kernel)
theorem ki_Mo_shortIn : Cond.instanceMethod y_Mo_shortIn ∈ gt := gt_at 799 (by decide +kernel) (by decide +kernel)
theorem kv_Mo_shortIn : Cond.selects R_Mo y_Mo_shortIn y_Mo_shortIn ∈ gt := gt_at 800 (by decide +kernel) (by decide +kernel)
theorem ks_Mo_restOf : Cond.static y_Mo_restOf ∈ gt := gt_at 815 (by decide +kernel) (by decide +kernel)
theorem ks_Mo_paymentOf : Cond.static y_Mo_paymentOf ∈ gt := gt_at 811 (by decide +kernel) (by decide +kernel)
theorem ks_Mo_isLoan : Cond.static y_Mo_isLoan ∈ gt := gt_at 807 (by decide +kernel) (by decide +kernel)
theorem ki_Mo_payment : Cond.instanceMethod y_Mo_payment ∈ gt := gt_at 803 (by decide +kernel) (by decide +kernel)
theorem kv_Mo_payment : Cond.selects R_Mo y_Mo_payment y_Mo_payment ∈ gt := gt_at 804 (by decide +kernel) (by decide +kernel)
theorem ki_Mo_rest : Cond.instanceMethod y_Mo_rest ∈ gt := gt_at 820 (by decide +kernel) (by decide +kernel)
theorem kv_Mo_rest : Cond.selects R_Mo y_Mo_rest y_Mo_rest ∈ gt := gt_at 821 (by decide +kernel) (by decide +kernel)
theorem ks_Lo_isOne : Cond.static y_Lo_isOne ∈ gt := gt_at 553 (by decide +kernel) (by decide +kernel)
theorem ks_Lo_restBehind : Cond.static y_Lo_restBehind ∈ gt := gt_at 561 (by decide +kernel) (by decide +kernel)
theorem ks_Lo_leastPayment : Cond.static y_Lo_leastPayment ∈ gt := gt_at 558 (by decide +kernel) (by decide +kernel)
theorem ki_Pa_init : Cond.instanceMethod y_Pa_init ∈ gt := gt_at 80 (by decide +kernel) (by decide +kernel)
theorem ki_Pa_has : Cond.instanceMethod y_Pa_has ∈ gt := gt_at 437 (by decide +kernel) (by decide +kernel)
theorem kv_Pa_has : Cond.selects R_Pa y_Pa_has y_Pa_has ∈ gt := gt_at 438 (by decide +kernel) (by decide +kernel)
theorem ki_Pa_hasState : Cond.instanceMethod y_Pa_hasState ∈ gt := gt_at 433 (by decide +kernel) (by decide +kernel)
theorem kv_Pa_hasState : Cond.selects R_Pa y_Pa_hasState y_Pa_hasState ∈ gt := gt_at 434 (by decide +kernel) (by decide +kernel)
theorem ki_Pa_add : Cond.instanceMethod y_Pa_add ∈ gt := gt_at 418 (by decide +kernel) (by decide +kernel)
theorem kv_Pa_add : Cond.selects R_Pa y_Pa_add y_Pa_add ∈ gt := gt_at 419 (by decide +kernel) (by decide +kernel)
theorem ki_Pa_going : Cond.instanceMethod y_Pa_going ∈ gt := gt_at 283 (by decide +kernel) (by decide +kernel)
theorem kv_Pa_going : Cond.selects R_Pa y_Pa_going y_Pa_going ∈ gt := gt_at 284 (by decide +kernel) (by decide +kernel)
theorem ki_Pa_setGoing : Cond.instanceMethod y_Pa_setGoing ∈ gt := gt_at 422 (by decide +kernel) (by decide +kernel)
theorem kv_Pa_setGoing : Cond.selects R_Pa y_Pa_setGoing y_Pa_setGoing ∈ gt := gt_at 423 (by decide +kernel) (by decide +kernel)
theorem ki_Pa_goTo : Cond.instanceMethod y_Pa_goTo ∈ gt := gt_at 457 (by decide +kernel) (by decide +kernel)
theorem kv_Pa_goTo : Cond.selects R_Pa y_Pa_goTo y_Pa_goTo ∈ gt := gt_at 458 (by decide +kernel) (by decide +kernel)
theorem ki_Pa_enter : Cond.instanceMethod y_Pa_enter ∈ gt := gt_at 267 (by decide +kernel) (by decide +kernel)
theorem kv_Pa_enter : Cond.selects R_Pa y_Pa_enter y_Pa_enter ∈ gt := gt_at 268 (by decide +kernel) (by decide +kernel)
theorem ki_Pa_begin : Cond.instanceMethod y_Pa_begin ∈ gt := gt_at 273 (by decide +kernel) (by decide +kernel)
theorem kv_Pa_begin : Cond.selects R_Pa y_Pa_begin y_Pa_begin ∈ gt := gt_at 6 (by decide +kernel) (by decide +kernel)
theorem ki_Pa_wear : Cond.instanceMethod y_Pa_wear ∈ gt := gt_at 280 (by decide +kernel) (by decide +kernel)
theorem kv_Pa_wear : Cond.selects R_Pa y_Pa_wear y_Pa_wear ∈ gt := gt_at 7 (by decide +kernel) (by decide +kernel)
theorem ki_Pa_careTaken : Cond.instanceMethod y_Pa_careTaken ∈ gt := gt_at 290 (by decide +kernel) (by decide +kernel)
theorem kv_Pa_careTaken : Cond.selects R_Pa y_Pa_careTaken y_Pa_careTaken ∈ gt := gt_at 291 (by decide +kernel) (by decide +kernel)
theorem ki_Pa_greatestState : Cond.instanceMethod y_Pa_greatestState ∈ gt := gt_at 477 (by decide +kernel) (by decide +kernel)
theorem kv_Pa_greatestState : Cond.selects R_Pa y_Pa_greatestState y_Pa_greatestState ∈ gt := gt_at 478 (by decide +kernel) (by decide +kernel)
theorem ki_Wo_init : Cond.instanceMethod y_Wo_init ∈ gt := gt_at 121 (by decide +kernel) (by decide +kernel)
theorem ki_Wo_has : Cond.instanceMethod y_Wo_has ∈ gt := gt_at 500 (by decide +kernel) (by decide +kernel)
theorem kv_Wo_has : Cond.selects R_Wo y_Wo_has y_Wo_has ∈ gt := gt_at 501 (by decide +kernel) (by decide +kernel)
theorem ki_Wo_all : Cond.instanceMethod y_Wo_all ∈ gt := gt_at 195 (by decide +kernel) (by decide +kernel)
theorem kv_Wo_all : Cond.selects R_Wo y_Wo_all y_Wo_all ∈ gt := gt_at 196 (by decide +kernel) (by decide +kernel)
theorem ki_Wo_add : Cond.instanceMethod y_Wo_add ∈ gt := gt_at 489 (by decide +kernel) (by decide +kernel)
theorem kv_Wo_add : Cond.selects R_Wo y_Wo_add y_Wo_add ∈ gt := gt_at 490 (by decide +kernel) (by decide +kernel)
theorem ki_Wo_worthOf : Cond.instanceMethod y_Wo_worthOf ∈ gt := gt_at 199 (by decide +kernel) (by decide +kernel)
theorem kv_Wo_worthOf : Cond.selects R_Wo y_Wo_worthOf y_Wo_worthOf ∈ gt := gt_at 200 (by decide +kernel) (by decide +kernel)
theorem ki_Wo_agree : Cond.instanceMethod y_Wo_agree ∈ gt := gt_at 206 (by decide +kernel) (by decide +kernel)
theorem kv_Wo_agree : Cond.selects R_Wo y_Wo_agree y_Wo_agree ∈ gt := gt_at 207 (by decide +kernel) (by decide +kernel)
theorem ki_Wo_lacksNeeded : Cond.instanceMethod y_Wo_lacksNeeded ∈ gt := gt_at 211 (by decide +kernel) (by decide +kernel)
theorem kv_Wo_lacksNeeded : Cond.selects R_Wo y_Wo_lacksNeeded y_Wo_lacksNeeded ∈ gt := gt_at 0 (by decide +kernel) (by decide +kernel)
theorem ki_Wo_spend : Cond.instanceMethod y_Wo_spend ∈ gt := gt_at 214 (by decide +kernel) (by decide +kernel)
theorem kv_Wo_spend : Cond.selects R_Wo y_Wo_spend y_Wo_spend ∈ gt := gt_at 215 (by decide +kernel) (by decide +kernel)
theorem ki_Wo_savedWithEarlier : Cond.instanceMethod y_Wo_savedWithEarlier ∈ gt := gt_at 225 (by decide +kernel) (by decide +kernel)
theorem kv_Wo_savedWithEarlier : Cond.selects R_Wo y_Wo_savedWithEarlier y_Wo_savedWithEarlier ∈ gt := gt_at 1 (by decide +kernel) (by decide +kernel)
theorem ki_Wo_spentOverBudgets : Cond.instanceMethod y_Wo_spentOverBudgets ∈ gt := gt_at 233 (by decide +kernel) (by decide +kernel)
theorem kv_Wo_spentOverBudgets : Cond.selects R_Wo y_Wo_spentOverBudgets y_Wo_spentOverBudgets ∈ gt := gt_at 234 (by decide +kernel) (by decide +kernel)
theorem ki_Wo_spentInAll : Cond.instanceMethod y_Wo_spentInAll ∈ gt := gt_at 230 (by decide +kernel) (by decide +kernel)
theorem kv_Wo_spentInAll : Cond.selects R_Wo y_Wo_spentInAll y_Wo_spentInAll ∈ gt := gt_at 2 (by decide +kernel) (by decide +kernel)
theorem ki_Wo_makeChoice : Cond.instanceMethod y_Wo_makeChoice ∈ gt := gt_at 191 (by decide +kernel) (by decide +kernel)
theorem kv_Wo_makeChoice : Cond.selects R_Wo y_Wo_makeChoice y_Wo_makeChoice ∈ gt := gt_at 192 (by decide +kernel) (by decide +kernel)
theorem ki_Ye_init : Cond.instanceMethod y_Ye_init ∈ gt := gt_at 55 (by decide +kernel) (by decide +kernel)
theorem ki_Ye_has : Cond.instanceMethod y_Ye_has ∈ gt := gt_at 306 (by decide +kernel) (by decide +kernel)
theorem kv_Ye_has : Cond.selects R_Ye y_Ye_has y_Ye_has ∈ gt := gt_at 307 (by decide +kernel) (by decide +kernel)
theorem ki_Ye_costIn : Cond.instanceMethod y_Ye_costIn ∈ gt := gt_at 219 (by decide +kernel) (by decide +kernel)
theorem kv_Ye_costIn : Cond.selects R_Ye y_Ye_costIn y_Ye_costIn ∈ gt := gt_at 220 (by decide +kernel) (by decide +kernel)
theorem ks_La_cell : Cond.static y_La_cell ∈ gt := gt_at 295 (by decide +kernel) (by decide +kernel)
theorem ks_La_index : Cond.static y_La_index ∈ gt := gt_at 298 (by decide +kernel) (by decide +kernel)
theorem ks_La_budget : Cond.static y_La_budget ∈ gt := gt_at 383 (by decide +kernel) (by decide +kernel)
theorem ks_La_part : Cond.static y_La_part ∈ gt := gt_at 391 (by decide +kernel) (by decide +kernel)
theorem ks_La_moves : Cond.static y_La_moves ∈ gt := gt_at 426 (by decide +kernel) (by decide +kernel)
theorem ks_La_care : Cond.static y_La_care ∈ gt := gt_at 443 (by decide +kernel) (by decide +kernel)
theorem ks_La_share : Cond.static y_La_share ∈ gt := gt_at 450 (by decide +kernel) (by decide +kernel)
theorem ks_La_cares : Cond.static y_La_cares ∈ gt := gt_at 462 (by decide +kernel) (by decide +kernel)
theorem ks_La_most : Cond.static y_La_most ∈ gt := gt_at 470 (by decide +kernel) (by decide +kernel)
theorem ks_La_work : Cond.static y_La_work ∈ gt := gt_at 481 (by decide +kernel) (by decide +kernel)
theorem ks_La_join : Cond.static y_La_join ∈ gt := gt_at 493 (by decide +kernel) (by decide +kernel)
theorem ks_La_clash : Cond.static y_La_clash ∈ gt := gt_at 504 (by decide +kernel) (by decide +kernel)
theorem ks_La_needs : Cond.static y_La_needs ∈ gt := gt_at 511 (by decide +kernel) (by decide +kernel)
theorem ks_La_chosen : Cond.static y_La_chosen ∈ gt := gt_at 518 (by decide +kernel) (by decide +kernel)
theorem ks_La_costs : Cond.static y_La_costs ∈ gt := gt_at 525 (by decide +kernel) (by decide +kernel)
theorem ks_La_money : Cond.static y_La_money ∈ gt := gt_at 532 (by decide +kernel) (by decide +kernel)
theorem ks_La_reserve : Cond.static y_La_reserve ∈ gt := gt_at 539 (by decide +kernel) (by decide +kernel)
theorem ks_La_payment : Cond.static y_La_payment ∈ gt := gt_at 546 (by decide +kernel) (by decide +kernel)
theorem ks_La_rest : Cond.static y_La_rest ∈ gt := gt_at 568 (by decide +kernel) (by decide +kernel)
theorem ks_Ar_fillI : Cond.static y_Ar_fillI ∈ gt := gt_at 59 (by decide +kernel) (by decide +kernel)
theorem ks_Ar_fillJ : Cond.static y_Ar_fillJ ∈ gt := gt_at 276 (by decide +kernel) (by decide +kernel)
theorem ks_Ma_maxI : Cond.static y_Ma_maxI ∈ gt := gt_at 52 (by decide +kernel) (by decide +kernel)
theorem ks_Ma_minI : Cond.static y_Ma_minI ∈ gt := gt_at 49 (by decide +kernel) (by decide +kernel)
theorem ks_Ma_maxJ : Cond.static y_Ma_maxJ ∈ gt := gt_at 565 (by decide +kernel) (by decide +kernel)
theorem kt_La_8 : Cond.classLink R_La 8 R_CY ∈ gt := gt_at 38 (by decide +kernel) (by decide +kernel)
theorem kb_CY : Cond.instantiable R_CY 6 ∈ gt := gt_at 39 (by decide +kernel) (by decide +kernel)
theorem kl_La_82 : Cond.methodLink R_La 82 y_CY_init ∈ gt := gt_at 40 (by decide +kernel) (by decide +kernel)
theorem kl_CY_1 : Cond.methodLink R_CY 1 objectInit ∈ gt := gt_at 43 (by decide +kernel) (by decide +kernel)
theorem kt_CY_7 : Cond.classLink R_CY 7 R_Ye ∈ gt := gt_at 46 (by decide +kernel) (by decide +kernel)
theorem kb_Ye : Cond.instantiable R_Ye 3 ∈ gt := gt_at 47 (by decide +kernel) (by decide +kernel)
theorem kl_CY_9 : Cond.methodLink R_CY 9 y_Ma_minI ∈ gt := gt_at 48 (by decide +kernel) (by decide +kernel)
theorem kl_CY_15 : Cond.methodLink R_CY 15 y_Ma_maxI ∈ gt := gt_at 51 (by decide +kernel) (by decide +kernel)
theorem kl_CY_18 : Cond.methodLink R_CY 18 y_Ye_init ∈ gt := gt_at 54 (by decide +kernel) (by decide +kernel)
theorem kl_Ye_1 : Cond.methodLink R_Ye 1 objectInit ∈ gt := gt_at 57 (by decide +kernel) (by decide +kernel)
theorem kl_Ye_20 : Cond.methodLink R_Ye 20 y_Ar_fillI ∈ gt := gt_at 58 (by decide +kernel) (by decide +kernel)
theorem kf_Ye_16 : Cond.fieldLink R_Ye 16 "CostYears$Years" "count" "I" ∈ gt := gt_at 61 (by decide +kernel) (by decide +kernel)
theorem kf_Wo_68 : Cond.fieldLink R_Wo 68 "CostYears$Years" "count" "I" ∈ gt := gt_at 62 (by decide +kernel) (by decide +kernel)
theorem kf_CY_170 : Cond.fieldLink R_CY 170 "CostYears$Years" "count" "I" ∈ gt := gt_at 63 (by decide +kernel) (by decide +kernel)
theorem kf_Ye_9 : Cond.fieldLink R_Ye 9 "CostYears$Years" "indexes" "[I" ∈ gt := gt_at 64 (by decide +kernel) (by decide +kernel)
theorem kf_CY_59 : Cond.fieldLink R_CY 59 "CostYears$Years" "indexes" "[I" ∈ gt := gt_at 65 (by decide +kernel) (by decide +kernel)
theorem kf_Ye_13 : Cond.fieldLink R_Ye 13 "CostYears$Years" "budgets" "[I" ∈ gt := gt_at 66 (by decide +kernel) (by decide +kernel)
theorem kf_CY_64 : Cond.fieldLink R_CY 64 "CostYears$Years" "budgets" "[I" ∈ gt := gt_at 67 (by decide +kernel) (by decide +kernel)
theorem kf_Wo_74 : Cond.fieldLink R_Wo 74 "CostYears$Years" "budgets" "[I" ∈ gt := gt_at 68 (by decide +kernel) (by decide +kernel)
theorem kt_CY_27 : Cond.classLink R_CY 27 R_Pa ∈ gt := gt_at 77 (by decide +kernel) (by decide +kernel)
theorem kb_Pa : Cond.instantiable R_Pa 9 ∈ gt := gt_at 78 (by decide +kernel) (by decide +kernel)
theorem kl_Pa_1 : Cond.methodLink R_Pa 1 objectInit ∈ gt := gt_at 82 (by decide +kernel) (by decide +kernel)
theorem kt_Pa_16 : Cond.classLink R_Pa 16 "[[I" ∈ gt := gt_at 83 (by decide +kernel) (by decide +kernel)
theorem kf_Pa_34 : Cond.fieldLink R_Pa 34 "CostYears$Parts" "count" "I" ∈ gt := gt_at 85 (by decide +kernel) (by decide +kernel)
theorem kf_CY_67 : Cond.fieldLink R_CY 67 "CostYears$Parts" "count" "I" ∈ gt := gt_at 86 (by decide +kernel) (by decide +kernel)
theorem kf_Pa_9 : Cond.fieldLink R_Pa 9 "CostYears$Parts" "states" "[I" ∈ gt := gt_at 87 (by decide +kernel) (by decide +kernel)
theorem kf_Pa_13 : Cond.fieldLink R_Pa 13 "CostYears$Parts" "starts" "[I" ∈ gt := gt_at 88 (by decide +kernel) (by decide +kernel)
theorem kf_Pa_18 : Cond.fieldLink R_Pa 18 "CostYears$Parts" "sixteenths" "[[I" ∈ gt := gt_at 89 (by decide +kernel) (by decide +kernel)
theorem kf_Pa_21 : Cond.fieldLink R_Pa 21 "CostYears$Parts" "takes" "[[I" ∈ gt := gt_at 90 (by decide +kernel) (by decide +kernel)
theorem kf_CY_89 : Cond.fieldLink R_CY 89 "CostYears$Parts" "takes" "[[I" ∈ gt := gt_at 91 (by decide +kernel) (by decide +kernel)
theorem kf_Pa_24 : Cond.fieldLink R_Pa 24 "CostYears$Parts" "renewals" "[I" ∈ gt := gt_at 92 (by decide +kernel) (by decide +kernel)
theorem kf_CY_195 : Cond.fieldLink R_CY 195 "CostYears$Parts" "renewals" "[I" ∈ gt := gt_at 93 (by decide +kernel) (by decide +kernel)
theorem kf_Pa_27 : Cond.fieldLink R_Pa 27 "CostYears$Parts" "shares" "[J" ∈ gt := gt_at 94 (by decide +kernel) (by decide +kernel)
theorem kf_CY_97 : Cond.fieldLink R_CY 97 "CostYears$Parts" "shares" "[J" ∈ gt := gt_at 95 (by decide +kernel) (by decide +kernel)
theorem kf_Pa_31 : Cond.fieldLink R_Pa 31 "CostYears$Parts" "sharesNext" "[J" ∈ gt := gt_at 96 (by decide +kernel) (by decide +kernel)
theorem kf_Pa_69 : Cond.fieldLink R_Pa 69 "CostYears$Parts" "yearsWorn" "I" ∈ gt := gt_at 97 (by decide +kernel) (by decide +kernel)
theorem kt_CY_34 : Cond.classLink R_CY 34 R_Wo ∈ gt := gt_at 118 (by decide +kernel) (by decide +kernel)
theorem kb_Wo : Cond.instantiable R_Wo 11 ∈ gt := gt_at 119 (by decide +kernel) (by decide +kernel)
theorem kl_CY_36 : Cond.methodLink R_CY 36 y_Wo_init ∈ gt := gt_at 120 (by decide +kernel) (by decide +kernel)
theorem kl_Wo_3 : Cond.methodLink R_Wo 3 objectInit ∈ gt := gt_at 123 (by decide +kernel) (by decide +kernel)
theorem kt_Wo_30 : Cond.classLink R_Wo 30 "[[I" ∈ gt := gt_at 124 (by decide +kernel) (by decide +kernel)
theorem kf_Wo_40 : Cond.fieldLink R_Wo 40 "CostYears$Works" "years" "LCostYears$Years;" ∈ gt := gt_at 125 (by decide +kernel) (by decide +kernel)
theorem kf_Wo_44 : Cond.fieldLink R_Wo 44 "CostYears$Works" "count" "I" ∈ gt := gt_at 126 (by decide +kernel) (by decide +kernel)
theorem kf_CY_112 : Cond.fieldLink R_CY 112 "CostYears$Works" "count" "I" ∈ gt := gt_at 127 (by decide +kernel) (by decide +kernel)
theorem kf_Wo_11 : Cond.fieldLink R_Wo 11 "CostYears$Works" "yearOf" "[I" ∈ gt := gt_at 128 (by decide +kernel) (by decide +kernel)
theorem kf_CY_207 : Cond.fieldLink R_CY 207 "CostYears$Works" "yearOf" "[I" ∈ gt := gt_at 129 (by decide +kernel) (by decide +kernel)
theorem kf_Wo_15 : Cond.fieldLink R_Wo 15 "CostYears$Works" "cents" "[I" ∈ gt := gt_at 130 (by decide +kernel) (by decide +kernel)
theorem kf_Wo_18 : Cond.fieldLink R_Wo 18 "CostYears$Works" "worth" "[I" ∈ gt := gt_at 131 (by decide +kernel) (by decide +kernel)
theorem kf_Wo_21 : Cond.fieldLink R_Wo 21 "CostYears$Works" "partOf" "[I" ∈ gt := gt_at 132 (by decide +kernel) (by decide +kernel)
theorem kf_CY_204 : Cond.fieldLink R_CY 204 "CostYears$Works" "partOf" "[I" ∈ gt := gt_at 133 (by decide +kernel) (by decide +kernel)
theorem kf_Wo_24 : Cond.fieldLink R_Wo 24 "CostYears$Works" "needed" "[I" ∈ gt := gt_at 134 (by decide +kernel) (by decide +kernel)
theorem kf_CY_130 : Cond.fieldLink R_CY 130 "CostYears$Works" "needed" "[I" ∈ gt := gt_at 135 (by decide +kernel) (by decide +kernel)
theorem kf_Wo_27 : Cond.fieldLink R_Wo 27 "CostYears$Works" "clashing" "[I" ∈ gt := gt_at 136 (by decide +kernel) (by decide +kernel)
theorem kf_CY_120 : Cond.fieldLink R_CY 120 "CostYears$Works" "clashing" "[I" ∈ gt := gt_at 137 (by decide +kernel) (by decide +kernel)
theorem kf_Wo_32 : Cond.fieldLink R_Wo 32 "CostYears$Works" "saves" "[[I" ∈ gt := gt_at 138 (by decide +kernel) (by decide +kernel)
theorem kf_CY_117 : Cond.fieldLink R_CY 117 "CostYears$Works" "saves" "[[I" ∈ gt := gt_at 139 (by decide +kernel) (by decide +kernel)
theorem kf_Wo_99 : Cond.fieldLink R_Wo 99 "CostYears$Works" "made" "I" ∈ gt := gt_at 140 (by decide +kernel) (by decide +kernel)
theorem kf_CY_139 : Cond.fieldLink R_CY 139 "CostYears$Works" "made" "I" ∈ gt := gt_at 141 (by decide +kernel) (by decide +kernel)
theorem kf_Wo_37 : Cond.fieldLink R_Wo 37 "CostYears$Works" "spent" "[I" ∈ gt := gt_at 142 (by decide +kernel) (by decide +kernel)
theorem kf_CY_148 : Cond.fieldLink R_CY 148 "CostYears$Works" "spent" "[I" ∈ gt := gt_at 143 (by decide +kernel) (by decide +kernel)
theorem kf_CY_21 : Cond.fieldLink R_CY 21 "CostYears" "years" "LCostYears$Years;" ∈ gt := gt_at 167 (by decide +kernel) (by decide +kernel)
theorem kf_CY_30 : Cond.fieldLink R_CY 30 "CostYears" "parts" "LCostYears$Parts;" ∈ gt := gt_at 168 (by decide +kernel) (by decide +kernel)
theorem kf_CY_39 : Cond.fieldLink R_CY 39 "CostYears" "works" "LCostYears$Works;" ∈ gt := gt_at 169 (by decide +kernel) (by decide +kernel)
theorem kf_CY_43 : Cond.fieldLink R_CY 43 "CostYears" "reserves" "[J" ∈ gt := gt_at 170 (by decide +kernel) (by decide +kernel)
theorem kf_CY_161 : Cond.fieldLink R_CY 161 "CostYears" "beginning" "I" ∈ gt := gt_at 171 (by decide +kernel) (by decide +kernel)
theorem kf_CY_164 : Cond.fieldLink R_CY 164 "CostYears" "deposit" "I" ∈ gt := gt_at 172 (by decide +kernel) (by decide +kernel)
theorem kl_La_132 : Cond.methodLink R_La 132 y_CY_choose ∈ gt := gt_at 186 (by decide +kernel) (by decide +kernel)
theorem kl_CY_133 : Cond.methodLink R_CY 133 y_Wo_makeChoice ∈ gt := gt_at 190 (by decide +kernel) (by decide +kernel)
theorem kl_Wo_77 : Cond.methodLink R_Wo 77 y_Wo_all ∈ gt := gt_at 194 (by decide +kernel) (by decide +kernel)
theorem kl_Wo_81 : Cond.methodLink R_Wo 81 y_Wo_worthOf ∈ gt := gt_at 198 (by decide +kernel) (by decide +kernel)
theorem kl_Wo_85 : Cond.methodLink R_Wo 85 y_Wo_agree ∈ gt := gt_at 205 (by decide +kernel) (by decide +kernel)
theorem kl_Wo_52 : Cond.methodLink R_Wo 52 y_Wo_lacksNeeded ∈ gt := gt_at 209 (by decide +kernel) (by decide +kernel)
theorem kl_Wo_89 : Cond.methodLink R_Wo 89 y_Wo_spend ∈ gt := gt_at 213 (by decide +kernel) (by decide +kernel)
theorem kl_Wo_55 : Cond.methodLink R_Wo 55 y_Ar_fillI ∈ gt := gt_at 217 (by decide +kernel) (by decide +kernel)
theorem kl_Wo_61 : Cond.methodLink R_Wo 61 y_Ye_costIn ∈ gt := gt_at 218 (by decide +kernel) (by decide +kernel)
theorem kk_Ye_26 : Cond.constantLong R_Ye 26 (1000) ∈ gt := gt_at 222 (by decide +kernel) (by decide +kernel)
theorem kl_Wo_65 : Cond.methodLink R_Wo 65 y_Wo_savedWithEarlier ∈ gt := gt_at 223 (by decide +kernel) (by decide +kernel)
theorem kl_Wo_69 : Cond.methodLink R_Wo 69 y_Ma_maxI ∈ gt := gt_at 227 (by decide +kernel) (by decide +kernel)
theorem kl_Wo_93 : Cond.methodLink R_Wo 93 y_Wo_spentInAll ∈ gt := gt_at 228 (by decide +kernel) (by decide +kernel)
theorem kl_Wo_96 : Cond.methodLink R_Wo 96 y_Wo_spentOverBudgets ∈ gt := gt_at 232 (by decide +kernel) (by decide +kernel)
theorem kl_CY_136 : Cond.methodLink R_CY 136 y_CY_renewParts ∈ gt := gt_at 236 (by decide +kernel) (by decide +kernel)
theorem kl_CY_198 : Cond.methodLink R_CY 198 y_Ar_fillI ∈ gt := gt_at 240 (by decide +kernel) (by decide +kernel)
theorem kl_CY_123 : Cond.methodLink R_CY 123 y_CY_holds ∈ gt := gt_at 241 (by decide +kernel) (by decide +kernel)
theorem kl_CY_126 : Cond.methodLink R_CY 126 y_CY_withBit ∈ gt := gt_at 242 (by decide +kernel) (by decide +kernel)
theorem kl_CY_142 : Cond.methodLink R_CY 142 y_Wo_worthOf ∈ gt := gt_at 245 (by decide +kernel) (by decide +kernel)
theorem kl_La_143 : Cond.methodLink R_La 143 y_CY_lacks ∈ gt := gt_at 246 (by decide +kernel) (by decide +kernel)
theorem kl_CY_151 : Cond.methodLink R_CY 151 y_Wo_all ∈ gt := gt_at 250 (by decide +kernel) (by decide +kernel)
theorem kl_CY_155 : Cond.methodLink R_CY 155 y_Wo_agree ∈ gt := gt_at 251 (by decide +kernel) (by decide +kernel)
theorem kl_CY_145 : Cond.methodLink R_CY 145 y_Wo_spend ∈ gt := gt_at 252 (by decide +kernel) (by decide +kernel)
theorem kl_CY_158 : Cond.methodLink R_CY 158 y_Wo_spentOverBudgets ∈ gt := gt_at 253 (by decide +kernel) (by decide +kernel)
theorem kl_La_154 : Cond.methodLink R_La 154 y_CY_shortIn ∈ gt := gt_at 254 (by decide +kernel) (by decide +kernel)
theorem kl_CY_167 : Cond.methodLink R_CY 167 y_CY_reckonReserves ∈ gt := gt_at 258 (by decide +kernel) (by decide +kernel)
theorem kl_CY_210 : Cond.methodLink R_CY 210 y_CY_takeCareFromReserves ∈ gt := gt_at 262 (by decide +kernel) (by decide +kernel)
theorem kl_CY_213 : Cond.methodLink R_CY 213 y_Pa_enter ∈ gt := gt_at 266 (by decide +kernel) (by decide +kernel)
theorem kl_Pa_56 : Cond.methodLink R_Pa 56 y_Pa_begin ∈ gt := gt_at 271 (by decide +kernel) (by decide +kernel)
theorem kl_Pa_63 : Cond.methodLink R_Pa 63 y_Ar_fillJ ∈ gt := gt_at 275 (by decide +kernel) (by decide +kernel)
theorem kl_Pa_60 : Cond.methodLink R_Pa 60 y_Pa_wear ∈ gt := gt_at 278 (by decide +kernel) (by decide +kernel)
theorem kl_Pa_72 : Cond.methodLink R_Pa 72 y_Pa_going ∈ gt := gt_at 282 (by decide +kernel) (by decide +kernel)
theorem kl_Pa_76 : Cond.methodLink R_Pa 76 arraycopyName ∈ gt := gt_at 286 (by decide +kernel) (by decide +kernel)
theorem kl_CY_101 : Cond.methodLink R_CY 101 y_Pa_careTaken ∈ gt := gt_at 289 (by decide +kernel) (by decide +kernel)
theorem kl_CY_105 : Cond.methodLink R_CY 105 y_Ye_costIn ∈ gt := gt_at 293 (by decide +kernel) (by decide +kernel)
theorem kl_La_76 : Cond.methodLink R_La 76 y_La_cell ∈ gt := gt_at 294 (by decide +kernel) (by decide +kernel)
theorem kl_La_88 : Cond.methodLink R_La 88 y_La_index ∈ gt := gt_at 297 (by decide +kernel) (by decide +kernel)
theorem kt_La_13 : Cond.classLink R_La 13 "java/lang/IllegalArgumentException" ∈ gt := gt_at 300 (by decide +kernel) (by decide +kernel)
theorem kl_La_7 : Cond.methodLink R_La 7 y_CY_index ∈ gt := gt_at 301 (by decide +kernel) (by decide +kernel)
theorem kl_CY_47 : Cond.methodLink R_CY 47 y_Ye_has ∈ gt := gt_at 305 (by decide +kernel) (by decide +kernel)
theorem kl_CY_51 : Cond.methodLink R_CY 51 y_CY_isWithin ∈ gt := gt_at 309 (by decide +kernel) (by decide +kernel)
theorem kl_CY_55 : Cond.methodLink R_CY 55 y_CY_refuseUnless ∈ gt := gt_at 312 (by decide +kernel) (by decide +kernel)
theorem kt_CY_183 : Cond.classLink R_CY 183 "java/lang/IllegalArgumentException" ∈ gt := gt_at 315 (by decide +kernel) (by decide +kernel)
theorem kl_La_96 : Cond.methodLink R_La 96 y_La_budget ∈ gt := gt_at 382 (by decide +kernel) (by decide +kernel)
theorem kl_La_15 : Cond.methodLink R_La 15 y_CY_budget ∈ gt := gt_at 385 (by decide +kernel) (by decide +kernel)
theorem kk_CY_63 : Cond.constant R_CY 63 (1000000000) ∈ gt := gt_at 389 (by decide +kernel) (by decide +kernel)
theorem kl_La_99 : Cond.methodLink R_La 99 y_La_part ∈ gt := gt_at 390 (by decide +kernel) (by decide +kernel)
theorem kt_La_21 : Cond.classLink R_La 21 "java/lang/IllegalStateException" ∈ gt := gt_at 393 (by decide +kernel) (by decide +kernel)
theorem kl_La_18 : Cond.methodLink R_La 18 y_CY_part ∈ gt := gt_at 394 (by decide +kernel) (by decide +kernel)
theorem kl_CY_71 : Cond.methodLink R_CY 71 y_CY_refuseIfFull ∈ gt := gt_at 398 (by decide +kernel) (by decide +kernel)
theorem kt_CY_190 : Cond.classLink R_CY 190 "java/lang/IllegalStateException" ∈ gt := gt_at 401 (by decide +kernel) (by decide +kernel)
theorem kl_CY_74 : Cond.methodLink R_CY 74 y_Pa_add ∈ gt := gt_at 417 (by decide +kernel) (by decide +kernel)
theorem kl_Pa_42 : Cond.methodLink R_Pa 42 y_Pa_setGoing ∈ gt := gt_at 421 (by decide +kernel) (by decide +kernel)
theorem kl_La_102 : Cond.methodLink R_La 102 y_La_moves ∈ gt := gt_at 425 (by decide +kernel) (by decide +kernel)
theorem kl_La_23 : Cond.methodLink R_La 23 y_CY_moves ∈ gt := gt_at 428 (by decide +kernel) (by decide +kernel)
theorem kl_CY_77 : Cond.methodLink R_CY 77 y_Pa_hasState ∈ gt := gt_at 432 (by decide +kernel) (by decide +kernel)
theorem kl_Pa_38 : Cond.methodLink R_Pa 38 y_Pa_has ∈ gt := gt_at 436 (by decide +kernel) (by decide +kernel)
theorem kl_CY_81 : Cond.methodLink R_CY 81 y_Pa_going ∈ gt := gt_at 440 (by decide +kernel) (by decide +kernel)
theorem kl_CY_85 : Cond.methodLink R_CY 85 y_Pa_setGoing ∈ gt := gt_at 441 (by decide +kernel) (by decide +kernel)
theorem kl_La_106 : Cond.methodLink R_La 106 y_La_care ∈ gt := gt_at 442 (by decide +kernel) (by decide +kernel)
theorem kl_La_27 : Cond.methodLink R_La 27 y_CY_care ∈ gt := gt_at 445 (by decide +kernel) (by decide +kernel)
theorem kl_La_110 : Cond.methodLink R_La 110 y_La_share ∈ gt := gt_at 449 (by decide +kernel) (by decide +kernel)
theorem kl_La_31 : Cond.methodLink R_La 31 y_CY_share ∈ gt := gt_at 452 (by decide +kernel) (by decide +kernel)
theorem kl_CY_93 : Cond.methodLink R_CY 93 y_Pa_goTo ∈ gt := gt_at 456 (by decide +kernel) (by decide +kernel)
theorem kl_Pa_46 : Cond.methodLink R_Pa 46 y_Pa_enter ∈ gt := gt_at 460 (by decide +kernel) (by decide +kernel)
theorem kl_La_113 : Cond.methodLink R_La 113 y_La_cares ∈ gt := gt_at 461 (by decide +kernel) (by decide +kernel)
theorem kl_La_35 : Cond.methodLink R_La 35 y_CY_cares ∈ gt := gt_at 464 (by decide +kernel) (by decide +kernel)
theorem kl_CY_100 : Cond.methodLink R_CY 100 y_Pa_has ∈ gt := gt_at 468 (by decide +kernel) (by decide +kernel)
theorem kl_La_116 : Cond.methodLink R_La 116 y_La_most ∈ gt := gt_at 469 (by decide +kernel) (by decide +kernel)
theorem kl_La_38 : Cond.methodLink R_La 38 y_CY_most ∈ gt := gt_at 472 (by decide +kernel) (by decide +kernel)
theorem kl_CY_108 : Cond.methodLink R_CY 108 y_Pa_greatestState ∈ gt := gt_at 476 (by decide +kernel) (by decide +kernel)
theorem kl_La_119 : Cond.methodLink R_La 119 y_La_work ∈ gt := gt_at 480 (by decide +kernel) (by decide +kernel)
theorem kl_La_41 : Cond.methodLink R_La 41 y_CY_work ∈ gt := gt_at 483 (by decide +kernel) (by decide +kernel)
theorem kk_CY_111 : Cond.constant R_CY 111 (1000000) ∈ gt := gt_at 487 (by decide +kernel) (by decide +kernel)
theorem kl_CY_113 : Cond.methodLink R_CY 113 y_Wo_add ∈ gt := gt_at 488 (by decide +kernel) (by decide +kernel)
theorem kl_La_122 : Cond.methodLink R_La 122 y_La_join ∈ gt := gt_at 492 (by decide +kernel) (by decide +kernel)
theorem kl_La_44 : Cond.methodLink R_La 44 y_CY_join ∈ gt := gt_at 495 (by decide +kernel) (by decide +kernel)
theorem kl_CY_116 : Cond.methodLink R_CY 116 y_Wo_has ∈ gt := gt_at 499 (by decide +kernel) (by decide +kernel)
theorem kl_La_125 : Cond.methodLink R_La 125 y_La_clash ∈ gt := gt_at 503 (by decide +kernel) (by decide +kernel)
theorem kl_La_47 : Cond.methodLink R_La 47 y_CY_clash ∈ gt := gt_at 506 (by decide +kernel) (by decide +kernel)
theorem kl_La_129 : Cond.methodLink R_La 129 y_La_needs ∈ gt := gt_at 510 (by decide +kernel) (by decide +kernel)
theorem kl_La_51 : Cond.methodLink R_La 51 y_CY_needs ∈ gt := gt_at 513 (by decide +kernel) (by decide +kernel)
theorem kl_La_136 : Cond.methodLink R_La 136 y_La_chosen ∈ gt := gt_at 517 (by decide +kernel) (by decide +kernel)
theorem kl_La_54 : Cond.methodLink R_La 54 y_CY_chosen ∈ gt := gt_at 520 (by decide +kernel) (by decide +kernel)
theorem kl_La_140 : Cond.methodLink R_La 140 y_La_costs ∈ gt := gt_at 524 (by decide +kernel) (by decide +kernel)
theorem kl_La_58 : Cond.methodLink R_La 58 y_CY_costs ∈ gt := gt_at 527 (by decide +kernel) (by decide +kernel)
theorem kl_La_147 : Cond.methodLink R_La 147 y_La_money ∈ gt := gt_at 531 (by decide +kernel) (by decide +kernel)
theorem kl_La_62 : Cond.methodLink R_La 62 y_CY_money ∈ gt := gt_at 534 (by decide +kernel) (by decide +kernel)
theorem kl_La_151 : Cond.methodLink R_La 151 y_La_reserve ∈ gt := gt_at 538 (by decide +kernel) (by decide +kernel)
theorem kl_La_66 : Cond.methodLink R_La 66 y_CY_reserve ∈ gt := gt_at 541 (by decide +kernel) (by decide +kernel)
theorem kl_La_158 : Cond.methodLink R_La 158 y_La_payment ∈ gt := gt_at 545 (by decide +kernel) (by decide +kernel)
theorem kl_La_70 : Cond.methodLink R_La 70 y_CY_payment ∈ gt := gt_at 548 (by decide +kernel) (by decide +kernel)
theorem kl_CY_171 : Cond.methodLink R_CY 171 y_Lo_isOne ∈ gt := gt_at 552 (by decide +kernel) (by decide +kernel)
theorem kk_Lo_9 : Cond.constant R_Lo 9 (1000000000) ∈ gt := gt_at 555 (by decide +kernel) (by decide +kernel)
theorem kl_CY_176 : Cond.methodLink R_CY 176 y_Lo_leastPayment ∈ gt := gt_at 557 (by decide +kernel) (by decide +kernel)
theorem kl_Lo_24 : Cond.methodLink R_Lo 24 y_Lo_restBehind ∈ gt := gt_at 560 (by decide +kernel) (by decide +kernel)
theorem kk_Lo_16 : Cond.constantLong R_Lo 16 (10000) ∈ gt := gt_at 563 (by decide +kernel) (by decide +kernel)
theorem kl_Lo_18 : Cond.methodLink R_Lo 18 y_Ma_maxJ ∈ gt := gt_at 564 (by decide +kernel) (by decide +kernel)
theorem kl_La_161 : Cond.methodLink R_La 161 y_La_rest ∈ gt := gt_at 567 (by decide +kernel) (by decide +kernel)
theorem kl_La_73 : Cond.methodLink R_La 73 y_CY_rest ∈ gt := gt_at 570 (by decide +kernel) (by decide +kernel)
theorem kl_CY_179 : Cond.methodLink R_CY 179 y_Lo_restBehind ∈ gt := gt_at 574 (by decide +kernel) (by decide +kernel)
theorem kt_La_85 : Cond.classLink R_La 85 R_Mo ∈ gt := gt_at 575 (by decide +kernel) (by decide +kernel)
theorem kb_Mo : Cond.instantiable R_Mo 23 ∈ gt := gt_at 576 (by decide +kernel) (by decide +kernel)
theorem kl_La_87 : Cond.methodLink R_La 87 y_Mo_init ∈ gt := gt_at 577 (by decide +kernel) (by decide +kernel)
theorem kl_Mo_1 : Cond.methodLink R_Mo 1 objectInit ∈ gt := gt_at 580 (by decide +kernel) (by decide +kernel)
theorem kf_Mo_61 : Cond.fieldLink R_Mo 61 "CostYearsModel" "thrown" "I" ∈ gt := gt_at 581 (by decide +kernel) (by decide +kernel)
theorem kf_Mo_57 : Cond.fieldLink R_Mo 57 "CostYearsModel" "years" "I" ∈ gt := gt_at 582 (by decide +kernel) (by decide +kernel)
theorem kf_Mo_7 : Cond.fieldLink R_Mo 7 "CostYearsModel" "indexes" "[I" ∈ gt := gt_at 583 (by decide +kernel) (by decide +kernel)
theorem kf_Mo_13 : Cond.fieldLink R_Mo 13 "CostYearsModel" "budgets" "[I" ∈ gt := gt_at 584 (by decide +kernel) (by decide +kernel)
theorem kf_Mo_68 : Cond.fieldLink R_Mo 68 "CostYearsModel" "parts" "I" ∈ gt := gt_at 585 (by decide +kernel) (by decide +kernel)
theorem kf_Mo_16 : Cond.fieldLink R_Mo 16 "CostYearsModel" "states" "[I" ∈ gt := gt_at 586 (by decide +kernel) (by decide +kernel)
theorem kf_Mo_19 : Cond.fieldLink R_Mo 19 "CostYearsModel" "starts" "[I" ∈ gt := gt_at 587 (by decide +kernel) (by decide +kernel)
theorem kf_Mo_22 : Cond.fieldLink R_Mo 22 "CostYearsModel" "goes" "[I" ∈ gt := gt_at 588 (by decide +kernel) (by decide +kernel)
theorem kf_Mo_25 : Cond.fieldLink R_Mo 25 "CostYearsModel" "cares" "[I" ∈ gt := gt_at 589 (by decide +kernel) (by decide +kernel)
theorem kf_Mo_75 : Cond.fieldLink R_Mo 75 "CostYearsModel" "works" "I" ∈ gt := gt_at 590 (by decide +kernel) (by decide +kernel)
theorem kf_Mo_28 : Cond.fieldLink R_Mo 28 "CostYearsModel" "workYears" "[I" ∈ gt := gt_at 591 (by decide +kernel) (by decide +kernel)
theorem kf_Mo_31 : Cond.fieldLink R_Mo 31 "CostYearsModel" "cents" "[I" ∈ gt := gt_at 592 (by decide +kernel) (by decide +kernel)
theorem kf_Mo_34 : Cond.fieldLink R_Mo 34 "CostYearsModel" "worths" "[I" ∈ gt := gt_at 593 (by decide +kernel) (by decide +kernel)
theorem kf_Mo_37 : Cond.fieldLink R_Mo 37 "CostYearsModel" "renews" "[I" ∈ gt := gt_at 594 (by decide +kernel) (by decide +kernel)
theorem kf_Mo_40 : Cond.fieldLink R_Mo 40 "CostYearsModel" "needed" "[I" ∈ gt := gt_at 595 (by decide +kernel) (by decide +kernel)
theorem kf_Mo_43 : Cond.fieldLink R_Mo 43 "CostYearsModel" "saves" "[I" ∈ gt := gt_at 596 (by decide +kernel) (by decide +kernel)
theorem kf_Mo_46 : Cond.fieldLink R_Mo 46 "CostYearsModel" "clashes" "[Z" ∈ gt := gt_at 597 (by decide +kernel) (by decide +kernel)
theorem kf_Mo_106 : Cond.fieldLink R_Mo 106 "CostYearsModel" "chosen" "I" ∈ gt := gt_at 598 (by decide +kernel) (by decide +kernel)
theorem kf_Mo_144 : Cond.fieldLink R_Mo 144 "CostYearsModel" "beginning" "J" ∈ gt := gt_at 599 (by decide +kernel) (by decide +kernel)
theorem kf_Mo_147 : Cond.fieldLink R_Mo 147 "CostYearsModel" "deposit" "J" ∈ gt := gt_at 600 (by decide +kernel) (by decide +kernel)
theorem kf_Mo_50 : Cond.fieldLink R_Mo 50 "CostYearsModel" "shares" "[J" ∈ gt := gt_at 601 (by decide +kernel) (by decide +kernel)
theorem kf_Mo_54 : Cond.fieldLink R_Mo 54 "CostYearsModel" "next" "[J" ∈ gt := gt_at 602 (by decide +kernel) (by decide +kernel)
theorem kf_Mo_130 : Cond.fieldLink R_Mo 130 "CostYearsModel" "spent" "J" ∈ gt := gt_at 603 (by decide +kernel) (by decide +kernel)
theorem kl_La_92 : Cond.methodLink R_La 92 y_Mo_thrown ∈ gt := gt_at 652 (by decide +kernel) (by decide +kernel)
theorem kl_La_91 : Cond.methodLink R_La 91 y_Mo_index ∈ gt := gt_at 656 (by decide +kernel) (by decide +kernel)
theorem kl_Mo_78 : Cond.methodLink R_Mo 78 y_Mo_isYear ∈ gt := gt_at 660 (by decide +kernel) (by decide +kernel)
theorem kl_Mo_64 : Cond.methodLink R_Mo 64 y_Mo_within ∈ gt := gt_at 664 (by decide +kernel) (by decide +kernel)
theorem kk_Mo_81 : Cond.constantLong R_Mo 81 (500) ∈ gt := gt_at 667 (by decide +kernel) (by decide +kernel)
theorem kk_Mo_83 : Cond.constantLong R_Mo 83 (2000) ∈ gt := gt_at 668 (by decide +kernel) (by decide +kernel)
theorem kl_Mo_85 : Cond.methodLink R_Mo 85 y_Mo_refuses ∈ gt := gt_at 669 (by decide +kernel) (by decide +kernel)
theorem kl_La_98 : Cond.methodLink R_La 98 y_Mo_budget ∈ gt := gt_at 673 (by decide +kernel) (by decide +kernel)
theorem kk_Mo_88 : Cond.constantLong R_Mo 88 (1000000000) ∈ gt := gt_at 677 (by decide +kernel) (by decide +kernel)
theorem kl_La_101 : Cond.methodLink R_La 101 y_Mo_part ∈ gt := gt_at 678 (by decide +kernel) (by decide +kernel)
theorem kk_Mo_90 : Cond.constantLong R_Mo 90 (2) ∈ gt := gt_at 682 (by decide +kernel) (by decide +kernel)
theorem kk_Mo_92 : Cond.constantLong R_Mo 92 (4) ∈ gt := gt_at 683 (by decide +kernel) (by decide +kernel)
theorem kl_La_105 : Cond.methodLink R_La 105 y_Mo_moves ∈ gt := gt_at 684 (by decide +kernel) (by decide +kernel)
theorem kl_Mo_94 : Cond.methodLink R_Mo 94 y_Mo_isState ∈ gt := gt_at 688 (by decide +kernel) (by decide +kernel)
theorem kl_Mo_71 : Cond.methodLink R_Mo 71 y_Mo_isPart ∈ gt := gt_at 692 (by decide +kernel) (by decide +kernel)
theorem kk_Mo_98 : Cond.constantLong R_Mo 98 (16) ∈ gt := gt_at 696 (by decide +kernel) (by decide +kernel)
theorem kl_Mo_100 : Cond.methodLink R_Mo 100 y_Mo_leaving ∈ gt := gt_at 697 (by decide +kernel) (by decide +kernel)
theorem kl_La_109 : Cond.methodLink R_La 109 y_Mo_care ∈ gt := gt_at 701 (by decide +kernel) (by decide +kernel)
theorem kk_Mo_104 : Cond.constantLong R_Mo 104 (1000) ∈ gt := gt_at 705 (by decide +kernel) (by decide +kernel)
theorem kl_La_112 : Cond.methodLink R_La 112 y_Mo_share ∈ gt := gt_at 706 (by decide +kernel) (by decide +kernel)
theorem kl_Mo_112 : Cond.methodLink R_Mo 112 y_Mo_learn ∈ gt := gt_at 710 (by decide +kernel) (by decide +kernel)
theorem kl_Mo_109 : Cond.methodLink R_Mo 109 y_Mo_begins ∈ gt := gt_at 714 (by decide +kernel) (by decide +kernel)
theorem kl_La_115 : Cond.methodLink R_La 115 y_Mo_cares ∈ gt := gt_at 718 (by decide +kernel) (by decide +kernel)
theorem kl_Mo_116 : Cond.methodLink R_Mo 116 y_Mo_careOf ∈ gt := gt_at 722 (by decide +kernel) (by decide +kernel)
theorem kl_La_118 : Cond.methodLink R_La 118 y_Mo_most ∈ gt := gt_at 726 (by decide +kernel) (by decide +kernel)
theorem kl_La_121 : Cond.methodLink R_La 121 y_Mo_work ∈ gt := gt_at 730 (by decide +kernel) (by decide +kernel)
theorem kk_Mo_119 : Cond.constantLong R_Mo 119 (1000000) ∈ gt := gt_at 734 (by decide +kernel) (by decide +kernel)
theorem kl_La_124 : Cond.methodLink R_La 124 y_Mo_join ∈ gt := gt_at 735 (by decide +kernel) (by decide +kernel)
theorem kl_Mo_124 : Cond.methodLink R_Mo 124 y_Mo_areTwo ∈ gt := gt_at 739 (by decide +kernel) (by decide +kernel)
theorem kl_Mo_121 : Cond.methodLink R_Mo 121 y_Mo_isWork ∈ gt := gt_at 743 (by decide +kernel) (by decide +kernel)
theorem kl_La_128 : Cond.methodLink R_La 128 y_Mo_clash ∈ gt := gt_at 747 (by decide +kernel) (by decide +kernel)
theorem kl_La_131 : Cond.methodLink R_La 131 y_Mo_needs ∈ gt := gt_at 751 (by decide +kernel) (by decide +kernel)
theorem kl_La_135 : Cond.methodLink R_La 135 y_Mo_choose ∈ gt := gt_at 755 (by decide +kernel) (by decide +kernel)
theorem kl_Mo_127 : Cond.methodLink R_Mo 127 y_Mo_has ∈ gt := gt_at 759 (by decide +kernel) (by decide +kernel)
theorem kl_Mo_137 : Cond.methodLink R_Mo 137 y_Mo_goesTogether ∈ gt := gt_at 762 (by decide +kernel) (by decide +kernel)
theorem kl_Mo_140 : Cond.methodLink R_Mo 140 y_Mo_lackOf ∈ gt := gt_at 766 (by decide +kernel) (by decide +kernel)
theorem kl_Mo_134 : Cond.methodLink R_Mo 134 y_Mo_costOf ∈ gt := gt_at 770 (by decide +kernel) (by decide +kernel)
theorem kl_La_139 : Cond.methodLink R_La 139 y_Mo_chosen ∈ gt := gt_at 774 (by decide +kernel) (by decide +kernel)
theorem kl_La_142 : Cond.methodLink R_La 142 y_Mo_costs ∈ gt := gt_at 778 (by decide +kernel) (by decide +kernel)
theorem kl_La_146 : Cond.methodLink R_La 146 y_Mo_lacks ∈ gt := gt_at 782 (by decide +kernel) (by decide +kernel)
theorem kl_La_150 : Cond.methodLink R_La 150 y_Mo_money ∈ gt := gt_at 786 (by decide +kernel) (by decide +kernel)
theorem kl_La_153 : Cond.methodLink R_La 153 y_Mo_reserve ∈ gt := gt_at 790 (by decide +kernel) (by decide +kernel)
theorem kl_Mo_150 : Cond.methodLink R_Mo 150 y_Mo_reserveOf ∈ gt := gt_at 794 (by decide +kernel) (by decide +kernel)
theorem kl_La_157 : Cond.methodLink R_La 157 y_Mo_shortIn ∈ gt := gt_at 798 (by decide +kernel) (by decide +kernel)
theorem kl_La_160 : Cond.methodLink R_La 160 y_Mo_payment ∈ gt := gt_at 802 (by decide +kernel) (by decide +kernel)
theorem kl_Mo_165 : Cond.methodLink R_Mo 165 y_Mo_isLoan ∈ gt := gt_at 806 (by decide +kernel) (by decide +kernel)
theorem kk_Mo_163 : Cond.constantLong R_Mo 163 (30) ∈ gt := gt_at 809 (by decide +kernel) (by decide +kernel)
theorem kl_Mo_169 : Cond.methodLink R_Mo 169 y_Mo_paymentOf ∈ gt := gt_at 810 (by decide +kernel) (by decide +kernel)
theorem kk_Mo_157 : Cond.constantLong R_Mo 157 (2000000000) ∈ gt := gt_at 813 (by decide +kernel) (by decide +kernel)
theorem kl_Mo_159 : Cond.methodLink R_Mo 159 y_Mo_restOf ∈ gt := gt_at 814 (by decide +kernel) (by decide +kernel)
theorem kk_Mo_153 : Cond.constantLong R_Mo 153 (9999) ∈ gt := gt_at 817 (by decide +kernel) (by decide +kernel)
theorem kk_Mo_155 : Cond.constantLong R_Mo 155 (10000) ∈ gt := gt_at 818 (by decide +kernel) (by decide +kernel)
theorem kl_La_163 : Cond.methodLink R_La 163 y_Mo_rest ∈ gt := gt_at 819 (by decide +kernel) (by decide +kernel)
theorem k_obj : Cond.code objectInit ⟨#[0xb1]⟩ 1 none ∈ gt := gt_at 45 (by decide +kernel) (by decide +kernel)
theorem k_obji : Cond.instanceMethod objectInit ∈ gt := gt_at 44 (by decide +kernel) (by decide +kernel)
abbrev gN : Type := String × Nat × MethodName × String
abbrev nlz : List gN := [(R_CY, 29, y_Pa_init, R_CY), (R_Wo, 48, y_CY_holds, R_CY), (R_Pa, 50, y_CY_holds, R_CY), (R_Lo, 10, y_CY_isWithin, R_CY)]
theorem nlz_in : ∀ q ∈ nlz, Cond.methodLinkNest q.1 q.2.1 q.2.2.1 q.2.2.2 ∈ lw_tbl := by
  intro q hq
  rcases List.mem_cons.mp hq with rfl | hq
  · exact List.mem_of_getElem? (i := 79) (by decide +kernel)
  rcases List.mem_cons.mp hq with rfl | hq
  · exact List.mem_of_getElem? (i := 202) (by decide +kernel)
  rcases List.mem_cons.mp hq with rfl | hq
  · exact List.mem_of_getElem? (i := 270) (by decide +kernel)
  rcases List.mem_cons.mp hq with rfl | hq
  · exact List.mem_of_getElem? (i := 556) (by decide +kernel)
  cases hq
end
section
/-! what each instruction decodes to, printed by wip/tools/names.py -/
theorem d_CY_init_0 : decode c_CY_init 0 = .ok (.aload_n 0, 1) := by decide +kernel
theorem d_CY_init_1 : decode c_CY_init 1 = .ok (.invokespecial 1, 3) := by decide +kernel
theorem d_CY_init_4 : decode c_CY_init 4 = .ok (.aload_n 0, 1) := by decide +kernel
theorem d_CY_init_5 : decode c_CY_init 5 = .ok (.new 7, 3) := by decide +kernel
theorem d_CY_init_8 : decode c_CY_init 8 = .ok (.dup, 1) := by decide +kernel
theorem d_CY_init_9 : decode c_CY_init 9 = .ok (.iconst 1, 1) := by decide +kernel
theorem d_CY_init_10 : decode c_CY_init 10 = .ok (.iload_n 1, 1) := by decide +kernel
theorem d_CY_init_11 : decode c_CY_init 11 = .ok (.bipush 12, 2) := by decide +kernel
theorem d_CY_init_13 : decode c_CY_init 13 = .ok (.invokestatic 9, 3) := by decide +kernel
theorem d_CY_init_16 : decode c_CY_init 16 = .ok (.invokestatic 15, 3) := by decide +kernel
theorem d_CY_init_19 : decode c_CY_init 19 = .ok (.invokespecial 18, 3) := by decide +kernel
theorem d_CY_init_22 : decode c_CY_init 22 = .ok (.putfield 21, 3) := by decide +kernel
theorem d_CY_init_25 : decode c_CY_init 25 = .ok (.aload_n 0, 1) := by decide +kernel
theorem d_CY_init_26 : decode c_CY_init 26 = .ok (.new 27, 3) := by decide +kernel
theorem d_CY_init_29 : decode c_CY_init 29 = .ok (.dup, 1) := by decide +kernel
theorem d_CY_init_30 : decode c_CY_init 30 = .ok (.invokespecial 29, 3) := by decide +kernel
theorem d_CY_init_33 : decode c_CY_init 33 = .ok (.putfield 30, 3) := by decide +kernel
theorem d_CY_init_36 : decode c_CY_init 36 = .ok (.aload_n 0, 1) := by decide +kernel
theorem d_CY_init_37 : decode c_CY_init 37 = .ok (.new 34, 3) := by decide +kernel
theorem d_CY_init_40 : decode c_CY_init 40 = .ok (.dup, 1) := by decide +kernel
theorem d_CY_init_41 : decode c_CY_init 41 = .ok (.aload_n 0, 1) := by decide +kernel
theorem d_CY_init_42 : decode c_CY_init 42 = .ok (.getfield 21, 3) := by decide +kernel
theorem d_CY_init_45 : decode c_CY_init 45 = .ok (.invokespecial 36, 3) := by decide +kernel
theorem d_CY_init_48 : decode c_CY_init 48 = .ok (.putfield 39, 3) := by decide +kernel
theorem d_CY_init_51 : decode c_CY_init 51 = .ok (.aload_n 0, 1) := by decide +kernel
theorem d_CY_init_52 : decode c_CY_init 52 = .ok (.bipush 12, 2) := by decide +kernel
theorem d_CY_init_54 : decode c_CY_init 54 = .ok (.newarray .long, 2) := by decide +kernel
theorem d_CY_init_56 : decode c_CY_init 56 = .ok (.putfield 43, 3) := by decide +kernel
theorem d_CY_init_59 : decode c_CY_init 59 = .ok (.return_, 1) := by decide +kernel
theorem d_CY_index_0 : decode c_CY_index 0 = .ok (.aload_n 0, 1) := by decide +kernel
theorem d_CY_index_1 : decode c_CY_index 1 = .ok (.getfield 21, 3) := by decide +kernel
theorem d_CY_index_4 : decode c_CY_index 4 = .ok (.iload_n 1, 1) := by decide +kernel
theorem d_CY_index_5 : decode c_CY_index 5 = .ok (.invokevirtual 47, 3) := by decide +kernel
theorem d_CY_index_8 : decode c_CY_index 8 = .ok (.ifCond .eq 20, 3) := by decide +kernel
theorem d_CY_index_11 : decode c_CY_index 11 = .ok (.iload_n 2, 1) := by decide +kernel
theorem d_CY_index_12 : decode c_CY_index 12 = .ok (.sipush 500, 3) := by decide +kernel
theorem d_CY_index_15 : decode c_CY_index 15 = .ok (.sipush 2000, 3) := by decide +kernel
theorem d_CY_index_18 : decode c_CY_index 18 = .ok (.invokestatic 51, 3) := by decide +kernel
theorem d_CY_index_21 : decode c_CY_index 21 = .ok (.ifCond .eq 7, 3) := by decide +kernel
theorem d_CY_index_24 : decode c_CY_index 24 = .ok (.iconst 1, 1) := by decide +kernel
theorem d_CY_index_25 : decode c_CY_index 25 = .ok (.goto 4, 3) := by decide +kernel
theorem d_CY_index_28 : decode c_CY_index 28 = .ok (.iconst 0, 1) := by decide +kernel
theorem d_CY_index_29 : decode c_CY_index 29 = .ok (.invokestatic 55, 3) := by decide +kernel
theorem d_CY_index_32 : decode c_CY_index 32 = .ok (.aload_n 0, 1) := by decide +kernel
theorem d_CY_index_33 : decode c_CY_index 33 = .ok (.getfield 21, 3) := by decide +kernel
theorem d_CY_index_36 : decode c_CY_index 36 = .ok (.getfield 59, 3) := by decide +kernel
theorem d_CY_index_39 : decode c_CY_index 39 = .ok (.iload_n 1, 1) := by decide +kernel
theorem d_CY_index_40 : decode c_CY_index 40 = .ok (.iaload, 1) := by decide +kernel
theorem d_CY_index_41 : decode c_CY_index 41 = .ok (.istore_n 3, 1) := by decide +kernel
theorem d_CY_index_42 : decode c_CY_index 42 = .ok (.aload_n 0, 1) := by decide +kernel
theorem d_CY_index_43 : decode c_CY_index 43 = .ok (.getfield 21, 3) := by decide +kernel
theorem d_CY_index_46 : decode c_CY_index 46 = .ok (.getfield 59, 3) := by decide +kernel
theorem d_CY_index_49 : decode c_CY_index 49 = .ok (.iload_n 1, 1) := by decide +kernel
theorem d_CY_index_50 : decode c_CY_index 50 = .ok (.iload_n 2, 1) := by decide +kernel
theorem d_CY_index_51 : decode c_CY_index 51 = .ok (.iastore, 1) := by decide +kernel
theorem d_CY_index_52 : decode c_CY_index 52 = .ok (.iload_n 3, 1) := by decide +kernel
theorem d_CY_index_53 : decode c_CY_index 53 = .ok (.ireturn, 1) := by decide +kernel
theorem d_CY_budget_0 : decode c_CY_budget 0 = .ok (.aload_n 0, 1) := by decide +kernel
theorem d_CY_budget_1 : decode c_CY_budget 1 = .ok (.getfield 21, 3) := by decide +kernel
theorem d_CY_budget_4 : decode c_CY_budget 4 = .ok (.iload_n 1, 1) := by decide +kernel
theorem d_CY_budget_5 : decode c_CY_budget 5 = .ok (.invokevirtual 47, 3) := by decide +kernel
theorem d_CY_budget_8 : decode c_CY_budget 8 = .ok (.ifCond .eq 17, 3) := by decide +kernel
theorem d_CY_budget_11 : decode c_CY_budget 11 = .ok (.iload_n 2, 1) := by decide +kernel
theorem d_CY_budget_12 : decode c_CY_budget 12 = .ok (.iconst 0, 1) := by decide +kernel
theorem d_CY_budget_13 : decode c_CY_budget 13 = .ok (.ldc 63, 2) := by decide +kernel
theorem d_CY_budget_15 : decode c_CY_budget 15 = .ok (.invokestatic 51, 3) := by decide +kernel
theorem d_CY_budget_18 : decode c_CY_budget 18 = .ok (.ifCond .eq 7, 3) := by decide +kernel
theorem d_CY_budget_21 : decode c_CY_budget 21 = .ok (.iconst 1, 1) := by decide +kernel
theorem d_CY_budget_22 : decode c_CY_budget 22 = .ok (.goto 4, 3) := by decide +kernel
theorem d_CY_budget_25 : decode c_CY_budget 25 = .ok (.iconst 0, 1) := by decide +kernel
theorem d_CY_budget_26 : decode c_CY_budget 26 = .ok (.invokestatic 55, 3) := by decide +kernel
theorem d_CY_budget_29 : decode c_CY_budget 29 = .ok (.aload_n 0, 1) := by decide +kernel
theorem d_CY_budget_30 : decode c_CY_budget 30 = .ok (.getfield 21, 3) := by decide +kernel
theorem d_CY_budget_33 : decode c_CY_budget 33 = .ok (.getfield 64, 3) := by decide +kernel
theorem d_CY_budget_36 : decode c_CY_budget 36 = .ok (.iload_n 1, 1) := by decide +kernel
theorem d_CY_budget_37 : decode c_CY_budget 37 = .ok (.iaload, 1) := by decide +kernel
theorem d_CY_budget_38 : decode c_CY_budget 38 = .ok (.istore_n 3, 1) := by decide +kernel
theorem d_CY_budget_39 : decode c_CY_budget 39 = .ok (.aload_n 0, 1) := by decide +kernel
theorem d_CY_budget_40 : decode c_CY_budget 40 = .ok (.getfield 21, 3) := by decide +kernel
theorem d_CY_budget_43 : decode c_CY_budget 43 = .ok (.getfield 64, 3) := by decide +kernel
theorem d_CY_budget_46 : decode c_CY_budget 46 = .ok (.iload_n 1, 1) := by decide +kernel
theorem d_CY_budget_47 : decode c_CY_budget 47 = .ok (.iload_n 2, 1) := by decide +kernel
theorem d_CY_budget_48 : decode c_CY_budget 48 = .ok (.iastore, 1) := by decide +kernel
theorem d_CY_budget_49 : decode c_CY_budget 49 = .ok (.iload_n 3, 1) := by decide +kernel
theorem d_CY_budget_50 : decode c_CY_budget 50 = .ok (.ireturn, 1) := by decide +kernel
theorem d_CY_part_0 : decode c_CY_part 0 = .ok (.iload_n 1, 1) := by decide +kernel
theorem d_CY_part_1 : decode c_CY_part 1 = .ok (.iconst 2, 1) := by decide +kernel
theorem d_CY_part_2 : decode c_CY_part 2 = .ok (.iconst 4, 1) := by decide +kernel
theorem d_CY_part_3 : decode c_CY_part 3 = .ok (.invokestatic 51, 3) := by decide +kernel
theorem d_CY_part_6 : decode c_CY_part 6 = .ok (.invokestatic 55, 3) := by decide +kernel
theorem d_CY_part_9 : decode c_CY_part 9 = .ok (.iload_n 2, 1) := by decide +kernel
theorem d_CY_part_10 : decode c_CY_part 10 = .ok (.iconst 0, 1) := by decide +kernel
theorem d_CY_part_11 : decode c_CY_part 11 = .ok (.iload_n 1, 1) := by decide +kernel
theorem d_CY_part_12 : decode c_CY_part 12 = .ok (.iconst 1, 1) := by decide +kernel
theorem d_CY_part_13 : decode c_CY_part 13 = .ok (.isub, 1) := by decide +kernel
theorem d_CY_part_14 : decode c_CY_part 14 = .ok (.invokestatic 51, 3) := by decide +kernel
theorem d_CY_part_17 : decode c_CY_part 17 = .ok (.invokestatic 55, 3) := by decide +kernel
theorem d_CY_part_20 : decode c_CY_part 20 = .ok (.aload_n 0, 1) := by decide +kernel
theorem d_CY_part_21 : decode c_CY_part 21 = .ok (.getfield 30, 3) := by decide +kernel
theorem d_CY_part_24 : decode c_CY_part 24 = .ok (.getfield 67, 3) := by decide +kernel
theorem d_CY_part_27 : decode c_CY_part 27 = .ok (.bipush 12, 2) := by decide +kernel
theorem d_CY_part_29 : decode c_CY_part 29 = .ok (.if_icmp .lt 7, 3) := by decide +kernel
theorem d_CY_part_32 : decode c_CY_part 32 = .ok (.iconst 1, 1) := by decide +kernel
theorem d_CY_part_33 : decode c_CY_part 33 = .ok (.goto 4, 3) := by decide +kernel
theorem d_CY_part_36 : decode c_CY_part 36 = .ok (.iconst 0, 1) := by decide +kernel
theorem d_CY_part_37 : decode c_CY_part 37 = .ok (.invokestatic 71, 3) := by decide +kernel
theorem d_CY_part_40 : decode c_CY_part 40 = .ok (.aload_n 0, 1) := by decide +kernel
theorem d_CY_part_41 : decode c_CY_part 41 = .ok (.getfield 30, 3) := by decide +kernel
theorem d_CY_part_44 : decode c_CY_part 44 = .ok (.iload_n 1, 1) := by decide +kernel
theorem d_CY_part_45 : decode c_CY_part 45 = .ok (.iload_n 2, 1) := by decide +kernel
theorem d_CY_part_46 : decode c_CY_part 46 = .ok (.invokevirtual 74, 3) := by decide +kernel
theorem d_CY_part_49 : decode c_CY_part 49 = .ok (.ireturn, 1) := by decide +kernel
theorem d_CY_moves_0 : decode c_CY_moves 0 = .ok (.aload_n 0, 1) := by decide +kernel
theorem d_CY_moves_1 : decode c_CY_moves 1 = .ok (.getfield 30, 3) := by decide +kernel
theorem d_CY_moves_4 : decode c_CY_moves 4 = .ok (.iload_n 1, 1) := by decide +kernel
theorem d_CY_moves_5 : decode c_CY_moves 5 = .ok (.iload_n 2, 1) := by decide +kernel
theorem d_CY_moves_6 : decode c_CY_moves 6 = .ok (.invokevirtual 77, 3) := by decide +kernel
theorem d_CY_moves_9 : decode c_CY_moves 9 = .ok (.ifCond .eq 24, 3) := by decide +kernel
theorem d_CY_moves_12 : decode c_CY_moves 12 = .ok (.aload_n 0, 1) := by decide +kernel
theorem d_CY_moves_13 : decode c_CY_moves 13 = .ok (.getfield 30, 3) := by decide +kernel
theorem d_CY_moves_16 : decode c_CY_moves 16 = .ok (.iload_n 1, 1) := by decide +kernel
theorem d_CY_moves_17 : decode c_CY_moves 17 = .ok (.iload_n 3, 1) := by decide +kernel
theorem d_CY_moves_18 : decode c_CY_moves 18 = .ok (.invokevirtual 77, 3) := by decide +kernel
theorem d_CY_moves_21 : decode c_CY_moves 21 = .ok (.ifCond .eq 12, 3) := by decide +kernel
theorem d_CY_moves_24 : decode c_CY_moves 24 = .ok (.iload_n 2, 1) := by decide +kernel
theorem d_CY_moves_25 : decode c_CY_moves 25 = .ok (.iload_n 3, 1) := by decide +kernel
theorem d_CY_moves_26 : decode c_CY_moves 26 = .ok (.if_icmp .eq 7, 3) := by decide +kernel
theorem d_CY_moves_29 : decode c_CY_moves 29 = .ok (.iconst 1, 1) := by decide +kernel
theorem d_CY_moves_30 : decode c_CY_moves 30 = .ok (.goto 4, 3) := by decide +kernel
theorem d_CY_moves_33 : decode c_CY_moves 33 = .ok (.iconst 0, 1) := by decide +kernel
theorem d_CY_moves_34 : decode c_CY_moves 34 = .ok (.invokestatic 55, 3) := by decide +kernel
theorem d_CY_moves_37 : decode c_CY_moves 37 = .ok (.iload 4, 2) := by decide +kernel
theorem d_CY_moves_39 : decode c_CY_moves 39 = .ok (.iconst 0, 1) := by decide +kernel
theorem d_CY_moves_40 : decode c_CY_moves 40 = .ok (.bipush 16, 2) := by decide +kernel
theorem d_CY_moves_42 : decode c_CY_moves 42 = .ok (.invokestatic 51, 3) := by decide +kernel
theorem d_CY_moves_45 : decode c_CY_moves 45 = .ok (.invokestatic 55, 3) := by decide +kernel
theorem d_CY_moves_48 : decode c_CY_moves 48 = .ok (.aload_n 0, 1) := by decide +kernel
theorem d_CY_moves_49 : decode c_CY_moves 49 = .ok (.getfield 30, 3) := by decide +kernel
theorem d_CY_moves_52 : decode c_CY_moves 52 = .ok (.iload_n 1, 1) := by decide +kernel
theorem d_CY_moves_53 : decode c_CY_moves 53 = .ok (.iload_n 2, 1) := by decide +kernel
theorem d_CY_moves_54 : decode c_CY_moves 54 = .ok (.iload_n 3, 1) := by decide +kernel
theorem d_CY_moves_55 : decode c_CY_moves 55 = .ok (.invokevirtual 81, 3) := by decide +kernel
theorem d_CY_moves_58 : decode c_CY_moves 58 = .ok (.istore 5, 2) := by decide +kernel
theorem d_CY_moves_60 : decode c_CY_moves 60 = .ok (.aload_n 0, 1) := by decide +kernel
theorem d_CY_moves_61 : decode c_CY_moves 61 = .ok (.getfield 30, 3) := by decide +kernel
theorem d_CY_moves_64 : decode c_CY_moves 64 = .ok (.iload_n 1, 1) := by decide +kernel
theorem d_CY_moves_65 : decode c_CY_moves 65 = .ok (.iload_n 2, 1) := by decide +kernel
theorem d_CY_moves_66 : decode c_CY_moves 66 = .ok (.iload_n 2, 1) := by decide +kernel
theorem d_CY_moves_67 : decode c_CY_moves 67 = .ok (.invokevirtual 81, 3) := by decide +kernel
theorem d_CY_moves_70 : decode c_CY_moves 70 = .ok (.iload 5, 2) := by decide +kernel
theorem d_CY_moves_72 : decode c_CY_moves 72 = .ok (.iadd, 1) := by decide +kernel
theorem d_CY_moves_73 : decode c_CY_moves 73 = .ok (.iload 4, 2) := by decide +kernel
theorem d_CY_moves_75 : decode c_CY_moves 75 = .ok (.isub, 1) := by decide +kernel
theorem d_CY_moves_76 : decode c_CY_moves 76 = .ok (.istore 6, 2) := by decide +kernel
theorem d_CY_moves_78 : decode c_CY_moves 78 = .ok (.iload 6, 2) := by decide +kernel
theorem d_CY_moves_80 : decode c_CY_moves 80 = .ok (.ifCond .lt 7, 3) := by decide +kernel
theorem d_CY_moves_83 : decode c_CY_moves 83 = .ok (.iconst 1, 1) := by decide +kernel
theorem d_CY_moves_84 : decode c_CY_moves 84 = .ok (.goto 4, 3) := by decide +kernel
theorem d_CY_moves_87 : decode c_CY_moves 87 = .ok (.iconst 0, 1) := by decide +kernel
theorem d_CY_moves_88 : decode c_CY_moves 88 = .ok (.invokestatic 55, 3) := by decide +kernel
theorem d_CY_moves_91 : decode c_CY_moves 91 = .ok (.aload_n 0, 1) := by decide +kernel
theorem d_CY_moves_92 : decode c_CY_moves 92 = .ok (.getfield 30, 3) := by decide +kernel
theorem d_CY_moves_95 : decode c_CY_moves 95 = .ok (.iload_n 1, 1) := by decide +kernel
theorem d_CY_moves_96 : decode c_CY_moves 96 = .ok (.iload_n 2, 1) := by decide +kernel
theorem d_CY_moves_97 : decode c_CY_moves 97 = .ok (.iload_n 3, 1) := by decide +kernel
theorem d_CY_moves_98 : decode c_CY_moves 98 = .ok (.iload 4, 2) := by decide +kernel
theorem d_CY_moves_100 : decode c_CY_moves 100 = .ok (.invokevirtual 85, 3) := by decide +kernel
theorem d_CY_moves_103 : decode c_CY_moves 103 = .ok (.aload_n 0, 1) := by decide +kernel
theorem d_CY_moves_104 : decode c_CY_moves 104 = .ok (.getfield 30, 3) := by decide +kernel
theorem d_CY_moves_107 : decode c_CY_moves 107 = .ok (.iload_n 1, 1) := by decide +kernel
theorem d_CY_moves_108 : decode c_CY_moves 108 = .ok (.iload_n 2, 1) := by decide +kernel
theorem d_CY_moves_109 : decode c_CY_moves 109 = .ok (.iload_n 2, 1) := by decide +kernel
theorem d_CY_moves_110 : decode c_CY_moves 110 = .ok (.iload 6, 2) := by decide +kernel
theorem d_CY_moves_112 : decode c_CY_moves 112 = .ok (.invokevirtual 85, 3) := by decide +kernel
theorem d_CY_moves_115 : decode c_CY_moves 115 = .ok (.iload 5, 2) := by decide +kernel
theorem d_CY_moves_117 : decode c_CY_moves 117 = .ok (.ireturn, 1) := by decide +kernel
theorem d_CY_care_0 : decode c_CY_care 0 = .ok (.aload_n 0, 1) := by decide +kernel
theorem d_CY_care_1 : decode c_CY_care 1 = .ok (.getfield 30, 3) := by decide +kernel
theorem d_CY_care_4 : decode c_CY_care 4 = .ok (.iload_n 1, 1) := by decide +kernel
theorem d_CY_care_5 : decode c_CY_care 5 = .ok (.iload_n 2, 1) := by decide +kernel
theorem d_CY_care_6 : decode c_CY_care 6 = .ok (.invokevirtual 77, 3) := by decide +kernel
theorem d_CY_care_9 : decode c_CY_care 9 = .ok (.ifCond .eq 18, 3) := by decide +kernel
theorem d_CY_care_12 : decode c_CY_care 12 = .ok (.iload_n 3, 1) := by decide +kernel
theorem d_CY_care_13 : decode c_CY_care 13 = .ok (.iconst 0, 1) := by decide +kernel
theorem d_CY_care_14 : decode c_CY_care 14 = .ok (.sipush 1000, 3) := by decide +kernel
theorem d_CY_care_17 : decode c_CY_care 17 = .ok (.invokestatic 51, 3) := by decide +kernel
theorem d_CY_care_20 : decode c_CY_care 20 = .ok (.ifCond .eq 7, 3) := by decide +kernel
theorem d_CY_care_23 : decode c_CY_care 23 = .ok (.iconst 1, 1) := by decide +kernel
theorem d_CY_care_24 : decode c_CY_care 24 = .ok (.goto 4, 3) := by decide +kernel
theorem d_CY_care_27 : decode c_CY_care 27 = .ok (.iconst 0, 1) := by decide +kernel
theorem d_CY_care_28 : decode c_CY_care 28 = .ok (.invokestatic 55, 3) := by decide +kernel
theorem d_CY_care_31 : decode c_CY_care 31 = .ok (.aload_n 0, 1) := by decide +kernel
theorem d_CY_care_32 : decode c_CY_care 32 = .ok (.getfield 30, 3) := by decide +kernel
theorem d_CY_care_35 : decode c_CY_care 35 = .ok (.getfield 89, 3) := by decide +kernel
theorem d_CY_care_38 : decode c_CY_care 38 = .ok (.iload_n 1, 1) := by decide +kernel
theorem d_CY_care_39 : decode c_CY_care 39 = .ok (.aaload, 1) := by decide +kernel
theorem d_CY_care_40 : decode c_CY_care 40 = .ok (.iload_n 2, 1) := by decide +kernel
theorem d_CY_care_41 : decode c_CY_care 41 = .ok (.iaload, 1) := by decide +kernel
theorem d_CY_care_42 : decode c_CY_care 42 = .ok (.istore 4, 2) := by decide +kernel
theorem d_CY_care_44 : decode c_CY_care 44 = .ok (.aload_n 0, 1) := by decide +kernel
theorem d_CY_care_45 : decode c_CY_care 45 = .ok (.getfield 30, 3) := by decide +kernel
theorem d_CY_care_48 : decode c_CY_care 48 = .ok (.getfield 89, 3) := by decide +kernel
theorem d_CY_care_51 : decode c_CY_care 51 = .ok (.iload_n 1, 1) := by decide +kernel
theorem d_CY_care_52 : decode c_CY_care 52 = .ok (.aaload, 1) := by decide +kernel
theorem d_CY_care_53 : decode c_CY_care 53 = .ok (.iload_n 2, 1) := by decide +kernel
theorem d_CY_care_54 : decode c_CY_care 54 = .ok (.iload_n 3, 1) := by decide +kernel
theorem d_CY_care_55 : decode c_CY_care 55 = .ok (.iastore, 1) := by decide +kernel
theorem d_CY_care_56 : decode c_CY_care 56 = .ok (.iload 4, 2) := by decide +kernel
theorem d_CY_care_58 : decode c_CY_care 58 = .ok (.ireturn, 1) := by decide +kernel
theorem d_CY_share_0 : decode c_CY_share 0 = .ok (.aload_n 0, 1) := by decide +kernel
theorem d_CY_share_1 : decode c_CY_share 1 = .ok (.getfield 30, 3) := by decide +kernel
theorem d_CY_share_4 : decode c_CY_share 4 = .ok (.iload_n 1, 1) := by decide +kernel
theorem d_CY_share_5 : decode c_CY_share 5 = .ok (.iload_n 2, 1) := by decide +kernel
theorem d_CY_share_6 : decode c_CY_share 6 = .ok (.invokevirtual 77, 3) := by decide +kernel
theorem d_CY_share_9 : decode c_CY_share 9 = .ok (.ifCond .eq 18, 3) := by decide +kernel
theorem d_CY_share_12 : decode c_CY_share 12 = .ok (.aload_n 0, 1) := by decide +kernel
theorem d_CY_share_13 : decode c_CY_share 13 = .ok (.getfield 21, 3) := by decide +kernel
theorem d_CY_share_16 : decode c_CY_share 16 = .ok (.iload_n 3, 1) := by decide +kernel
theorem d_CY_share_17 : decode c_CY_share 17 = .ok (.invokevirtual 47, 3) := by decide +kernel
theorem d_CY_share_20 : decode c_CY_share 20 = .ok (.ifCond .eq 7, 3) := by decide +kernel
theorem d_CY_share_23 : decode c_CY_share 23 = .ok (.iconst 1, 1) := by decide +kernel
theorem d_CY_share_24 : decode c_CY_share 24 = .ok (.goto 4, 3) := by decide +kernel
theorem d_CY_share_27 : decode c_CY_share 27 = .ok (.iconst 0, 1) := by decide +kernel
theorem d_CY_share_28 : decode c_CY_share 28 = .ok (.invokestatic 55, 3) := by decide +kernel
theorem d_CY_share_31 : decode c_CY_share 31 = .ok (.aload_n 0, 1) := by decide +kernel
theorem d_CY_share_32 : decode c_CY_share 32 = .ok (.getfield 30, 3) := by decide +kernel
theorem d_CY_share_35 : decode c_CY_share 35 = .ok (.iload_n 1, 1) := by decide +kernel
theorem d_CY_share_36 : decode c_CY_share 36 = .ok (.iload_n 3, 1) := by decide +kernel
theorem d_CY_share_37 : decode c_CY_share 37 = .ok (.invokevirtual 93, 3) := by decide +kernel
theorem d_CY_share_40 : decode c_CY_share 40 = .ok (.aload_n 0, 1) := by decide +kernel
theorem d_CY_share_41 : decode c_CY_share 41 = .ok (.getfield 30, 3) := by decide +kernel
theorem d_CY_share_44 : decode c_CY_share 44 = .ok (.getfield 97, 3) := by decide +kernel
theorem d_CY_share_47 : decode c_CY_share 47 = .ok (.iload_n 2, 1) := by decide +kernel
theorem d_CY_share_48 : decode c_CY_share 48 = .ok (.laload, 1) := by decide +kernel
theorem d_CY_share_49 : decode c_CY_share 49 = .ok (.lreturn, 1) := by decide +kernel
theorem d_CY_cares_0 : decode c_CY_cares 0 = .ok (.aload_n 0, 1) := by decide +kernel
theorem d_CY_cares_1 : decode c_CY_cares 1 = .ok (.getfield 30, 3) := by decide +kernel
theorem d_CY_cares_4 : decode c_CY_cares 4 = .ok (.iload_n 1, 1) := by decide +kernel
theorem d_CY_cares_5 : decode c_CY_cares 5 = .ok (.invokevirtual 100, 3) := by decide +kernel
theorem d_CY_cares_8 : decode c_CY_cares 8 = .ok (.ifCond .eq 18, 3) := by decide +kernel
theorem d_CY_cares_11 : decode c_CY_cares 11 = .ok (.aload_n 0, 1) := by decide +kernel
theorem d_CY_cares_12 : decode c_CY_cares 12 = .ok (.getfield 21, 3) := by decide +kernel
theorem d_CY_cares_15 : decode c_CY_cares 15 = .ok (.iload_n 2, 1) := by decide +kernel
theorem d_CY_cares_16 : decode c_CY_cares 16 = .ok (.invokevirtual 47, 3) := by decide +kernel
theorem d_CY_cares_19 : decode c_CY_cares 19 = .ok (.ifCond .eq 7, 3) := by decide +kernel
theorem d_CY_cares_22 : decode c_CY_cares 22 = .ok (.iconst 1, 1) := by decide +kernel
theorem d_CY_cares_23 : decode c_CY_cares 23 = .ok (.goto 4, 3) := by decide +kernel
theorem d_CY_cares_26 : decode c_CY_cares 26 = .ok (.iconst 0, 1) := by decide +kernel
theorem d_CY_cares_27 : decode c_CY_cares 27 = .ok (.invokestatic 55, 3) := by decide +kernel
theorem d_CY_cares_30 : decode c_CY_cares 30 = .ok (.aload_n 0, 1) := by decide +kernel
theorem d_CY_cares_31 : decode c_CY_cares 31 = .ok (.getfield 30, 3) := by decide +kernel
theorem d_CY_cares_34 : decode c_CY_cares 34 = .ok (.iload_n 1, 1) := by decide +kernel
theorem d_CY_cares_35 : decode c_CY_cares 35 = .ok (.iload_n 2, 1) := by decide +kernel
theorem d_CY_cares_36 : decode c_CY_cares 36 = .ok (.invokevirtual 93, 3) := by decide +kernel
theorem d_CY_cares_39 : decode c_CY_cares 39 = .ok (.aload_n 0, 1) := by decide +kernel
theorem d_CY_cares_40 : decode c_CY_cares 40 = .ok (.getfield 21, 3) := by decide +kernel
theorem d_CY_cares_43 : decode c_CY_cares 43 = .ok (.iload_n 2, 1) := by decide +kernel
theorem d_CY_cares_44 : decode c_CY_cares 44 = .ok (.aload_n 0, 1) := by decide +kernel
theorem d_CY_cares_45 : decode c_CY_cares 45 = .ok (.getfield 30, 3) := by decide +kernel
theorem d_CY_cares_48 : decode c_CY_cares 48 = .ok (.iload_n 1, 1) := by decide +kernel
theorem d_CY_cares_49 : decode c_CY_cares 49 = .ok (.invokevirtual 101, 3) := by decide +kernel
theorem d_CY_cares_52 : decode c_CY_cares 52 = .ok (.invokevirtual 105, 3) := by decide +kernel
theorem d_CY_cares_55 : decode c_CY_cares 55 = .ok (.ireturn, 1) := by decide +kernel
theorem d_CY_most_0 : decode c_CY_most 0 = .ok (.aload_n 0, 1) := by decide +kernel
theorem d_CY_most_1 : decode c_CY_most 1 = .ok (.getfield 30, 3) := by decide +kernel
theorem d_CY_most_4 : decode c_CY_most 4 = .ok (.iload_n 1, 1) := by decide +kernel
theorem d_CY_most_5 : decode c_CY_most 5 = .ok (.invokevirtual 100, 3) := by decide +kernel
theorem d_CY_most_8 : decode c_CY_most 8 = .ok (.ifCond .eq 18, 3) := by decide +kernel
theorem d_CY_most_11 : decode c_CY_most 11 = .ok (.aload_n 0, 1) := by decide +kernel
theorem d_CY_most_12 : decode c_CY_most 12 = .ok (.getfield 21, 3) := by decide +kernel
theorem d_CY_most_15 : decode c_CY_most 15 = .ok (.iload_n 2, 1) := by decide +kernel
theorem d_CY_most_16 : decode c_CY_most 16 = .ok (.invokevirtual 47, 3) := by decide +kernel
theorem d_CY_most_19 : decode c_CY_most 19 = .ok (.ifCond .eq 7, 3) := by decide +kernel
theorem d_CY_most_22 : decode c_CY_most 22 = .ok (.iconst 1, 1) := by decide +kernel
theorem d_CY_most_23 : decode c_CY_most 23 = .ok (.goto 4, 3) := by decide +kernel
theorem d_CY_most_26 : decode c_CY_most 26 = .ok (.iconst 0, 1) := by decide +kernel
theorem d_CY_most_27 : decode c_CY_most 27 = .ok (.invokestatic 55, 3) := by decide +kernel
theorem d_CY_most_30 : decode c_CY_most 30 = .ok (.aload_n 0, 1) := by decide +kernel
theorem d_CY_most_31 : decode c_CY_most 31 = .ok (.getfield 30, 3) := by decide +kernel
theorem d_CY_most_34 : decode c_CY_most 34 = .ok (.iload_n 1, 1) := by decide +kernel
theorem d_CY_most_35 : decode c_CY_most 35 = .ok (.iload_n 2, 1) := by decide +kernel
theorem d_CY_most_36 : decode c_CY_most 36 = .ok (.invokevirtual 93, 3) := by decide +kernel
theorem d_CY_most_39 : decode c_CY_most 39 = .ok (.aload_n 0, 1) := by decide +kernel
theorem d_CY_most_40 : decode c_CY_most 40 = .ok (.getfield 30, 3) := by decide +kernel
theorem d_CY_most_43 : decode c_CY_most 43 = .ok (.iload_n 1, 1) := by decide +kernel
theorem d_CY_most_44 : decode c_CY_most 44 = .ok (.invokevirtual 108, 3) := by decide +kernel
theorem d_CY_most_47 : decode c_CY_most 47 = .ok (.ireturn, 1) := by decide +kernel
theorem d_CY_work_0 : decode c_CY_work 0 = .ok (.aload_n 0, 1) := by decide +kernel
theorem d_CY_work_1 : decode c_CY_work 1 = .ok (.getfield 21, 3) := by decide +kernel
theorem d_CY_work_4 : decode c_CY_work 4 = .ok (.iload_n 1, 1) := by decide +kernel
theorem d_CY_work_5 : decode c_CY_work 5 = .ok (.invokevirtual 47, 3) := by decide +kernel
theorem d_CY_work_8 : decode c_CY_work 8 = .ok (.ifCond .eq 25, 3) := by decide +kernel
theorem d_CY_work_11 : decode c_CY_work 11 = .ok (.iload 4, 2) := by decide +kernel
theorem d_CY_work_13 : decode c_CY_work 13 = .ok (.iconst (-1), 1) := by decide +kernel
theorem d_CY_work_14 : decode c_CY_work 14 = .ok (.if_icmp .eq 15, 3) := by decide +kernel
theorem d_CY_work_17 : decode c_CY_work 17 = .ok (.aload_n 0, 1) := by decide +kernel
theorem d_CY_work_18 : decode c_CY_work 18 = .ok (.getfield 30, 3) := by decide +kernel
theorem d_CY_work_21 : decode c_CY_work 21 = .ok (.iload 4, 2) := by decide +kernel
theorem d_CY_work_23 : decode c_CY_work 23 = .ok (.invokevirtual 100, 3) := by decide +kernel
theorem d_CY_work_26 : decode c_CY_work 26 = .ok (.ifCond .eq 7, 3) := by decide +kernel
theorem d_CY_work_29 : decode c_CY_work 29 = .ok (.iconst 1, 1) := by decide +kernel
theorem d_CY_work_30 : decode c_CY_work 30 = .ok (.goto 4, 3) := by decide +kernel
theorem d_CY_work_33 : decode c_CY_work 33 = .ok (.iconst 0, 1) := by decide +kernel
theorem d_CY_work_34 : decode c_CY_work 34 = .ok (.invokestatic 55, 3) := by decide +kernel
theorem d_CY_work_37 : decode c_CY_work 37 = .ok (.iload_n 2, 1) := by decide +kernel
theorem d_CY_work_38 : decode c_CY_work 38 = .ok (.iconst 1, 1) := by decide +kernel
theorem d_CY_work_39 : decode c_CY_work 39 = .ok (.ldc 111, 2) := by decide +kernel
theorem d_CY_work_41 : decode c_CY_work 41 = .ok (.invokestatic 51, 3) := by decide +kernel
theorem d_CY_work_44 : decode c_CY_work 44 = .ok (.ifCond .eq 17, 3) := by decide +kernel
theorem d_CY_work_47 : decode c_CY_work 47 = .ok (.iload_n 3, 1) := by decide +kernel
theorem d_CY_work_48 : decode c_CY_work 48 = .ok (.iconst 0, 1) := by decide +kernel
theorem d_CY_work_49 : decode c_CY_work 49 = .ok (.ldc 111, 2) := by decide +kernel
theorem d_CY_work_51 : decode c_CY_work 51 = .ok (.invokestatic 51, 3) := by decide +kernel
theorem d_CY_work_54 : decode c_CY_work 54 = .ok (.ifCond .eq 7, 3) := by decide +kernel
theorem d_CY_work_57 : decode c_CY_work 57 = .ok (.iconst 1, 1) := by decide +kernel
theorem d_CY_work_58 : decode c_CY_work 58 = .ok (.goto 4, 3) := by decide +kernel
theorem d_CY_work_61 : decode c_CY_work 61 = .ok (.iconst 0, 1) := by decide +kernel
theorem d_CY_work_62 : decode c_CY_work 62 = .ok (.invokestatic 55, 3) := by decide +kernel
theorem d_CY_work_65 : decode c_CY_work 65 = .ok (.aload_n 0, 1) := by decide +kernel
theorem d_CY_work_66 : decode c_CY_work 66 = .ok (.getfield 39, 3) := by decide +kernel
theorem d_CY_work_69 : decode c_CY_work 69 = .ok (.getfield 112, 3) := by decide +kernel
theorem d_CY_work_72 : decode c_CY_work 72 = .ok (.bipush 10, 2) := by decide +kernel
theorem d_CY_work_74 : decode c_CY_work 74 = .ok (.if_icmp .lt 7, 3) := by decide +kernel
theorem d_CY_work_77 : decode c_CY_work 77 = .ok (.iconst 1, 1) := by decide +kernel
theorem d_CY_work_78 : decode c_CY_work 78 = .ok (.goto 4, 3) := by decide +kernel
theorem d_CY_work_81 : decode c_CY_work 81 = .ok (.iconst 0, 1) := by decide +kernel
theorem d_CY_work_82 : decode c_CY_work 82 = .ok (.invokestatic 71, 3) := by decide +kernel
theorem d_CY_work_85 : decode c_CY_work 85 = .ok (.aload_n 0, 1) := by decide +kernel
theorem d_CY_work_86 : decode c_CY_work 86 = .ok (.getfield 39, 3) := by decide +kernel
theorem d_CY_work_89 : decode c_CY_work 89 = .ok (.iload_n 1, 1) := by decide +kernel
theorem d_CY_work_90 : decode c_CY_work 90 = .ok (.iload_n 2, 1) := by decide +kernel
theorem d_CY_work_91 : decode c_CY_work 91 = .ok (.iload_n 3, 1) := by decide +kernel
theorem d_CY_work_92 : decode c_CY_work 92 = .ok (.iload 4, 2) := by decide +kernel
theorem d_CY_work_94 : decode c_CY_work 94 = .ok (.invokevirtual 113, 3) := by decide +kernel
theorem d_CY_work_97 : decode c_CY_work 97 = .ok (.ireturn, 1) := by decide +kernel
theorem d_CY_join_0 : decode c_CY_join 0 = .ok (.aload_n 0, 1) := by decide +kernel
theorem d_CY_join_1 : decode c_CY_join 1 = .ok (.getfield 39, 3) := by decide +kernel
theorem d_CY_join_4 : decode c_CY_join 4 = .ok (.iload_n 1, 1) := by decide +kernel
theorem d_CY_join_5 : decode c_CY_join 5 = .ok (.invokevirtual 116, 3) := by decide +kernel
theorem d_CY_join_8 : decode c_CY_join 8 = .ok (.ifCond .eq 23, 3) := by decide +kernel
theorem d_CY_join_11 : decode c_CY_join 11 = .ok (.aload_n 0, 1) := by decide +kernel
theorem d_CY_join_12 : decode c_CY_join 12 = .ok (.getfield 39, 3) := by decide +kernel
theorem d_CY_join_15 : decode c_CY_join 15 = .ok (.iload_n 2, 1) := by decide +kernel
theorem d_CY_join_16 : decode c_CY_join 16 = .ok (.invokevirtual 116, 3) := by decide +kernel
theorem d_CY_join_19 : decode c_CY_join 19 = .ok (.ifCond .eq 12, 3) := by decide +kernel
theorem d_CY_join_22 : decode c_CY_join 22 = .ok (.iload_n 1, 1) := by decide +kernel
theorem d_CY_join_23 : decode c_CY_join 23 = .ok (.iload_n 2, 1) := by decide +kernel
theorem d_CY_join_24 : decode c_CY_join 24 = .ok (.if_icmp .eq 7, 3) := by decide +kernel
theorem d_CY_join_27 : decode c_CY_join 27 = .ok (.iconst 1, 1) := by decide +kernel
theorem d_CY_join_28 : decode c_CY_join 28 = .ok (.goto 4, 3) := by decide +kernel
theorem d_CY_join_31 : decode c_CY_join 31 = .ok (.iconst 0, 1) := by decide +kernel
theorem d_CY_join_32 : decode c_CY_join 32 = .ok (.invokestatic 55, 3) := by decide +kernel
theorem d_CY_join_35 : decode c_CY_join 35 = .ok (.iload_n 3, 1) := by decide +kernel
theorem d_CY_join_36 : decode c_CY_join 36 = .ok (.iconst 0, 1) := by decide +kernel
theorem d_CY_join_37 : decode c_CY_join 37 = .ok (.ldc 111, 2) := by decide +kernel
theorem d_CY_join_39 : decode c_CY_join 39 = .ok (.invokestatic 51, 3) := by decide +kernel
theorem d_CY_join_42 : decode c_CY_join 42 = .ok (.invokestatic 55, 3) := by decide +kernel
theorem d_CY_join_45 : decode c_CY_join 45 = .ok (.aload_n 0, 1) := by decide +kernel
theorem d_CY_join_46 : decode c_CY_join 46 = .ok (.getfield 39, 3) := by decide +kernel
theorem d_CY_join_49 : decode c_CY_join 49 = .ok (.getfield 117, 3) := by decide +kernel
theorem d_CY_join_52 : decode c_CY_join 52 = .ok (.iload_n 1, 1) := by decide +kernel
theorem d_CY_join_53 : decode c_CY_join 53 = .ok (.aaload, 1) := by decide +kernel
theorem d_CY_join_54 : decode c_CY_join 54 = .ok (.iload_n 2, 1) := by decide +kernel
theorem d_CY_join_55 : decode c_CY_join 55 = .ok (.iaload, 1) := by decide +kernel
theorem d_CY_join_56 : decode c_CY_join 56 = .ok (.istore 4, 2) := by decide +kernel
theorem d_CY_join_58 : decode c_CY_join 58 = .ok (.aload_n 0, 1) := by decide +kernel
theorem d_CY_join_59 : decode c_CY_join 59 = .ok (.getfield 39, 3) := by decide +kernel
theorem d_CY_join_62 : decode c_CY_join 62 = .ok (.getfield 117, 3) := by decide +kernel
theorem d_CY_join_65 : decode c_CY_join 65 = .ok (.iload_n 1, 1) := by decide +kernel
theorem d_CY_join_66 : decode c_CY_join 66 = .ok (.aaload, 1) := by decide +kernel
theorem d_CY_join_67 : decode c_CY_join 67 = .ok (.iload_n 2, 1) := by decide +kernel
theorem d_CY_join_68 : decode c_CY_join 68 = .ok (.iload_n 3, 1) := by decide +kernel
theorem d_CY_join_69 : decode c_CY_join 69 = .ok (.iastore, 1) := by decide +kernel
theorem d_CY_join_70 : decode c_CY_join 70 = .ok (.aload_n 0, 1) := by decide +kernel
theorem d_CY_join_71 : decode c_CY_join 71 = .ok (.getfield 39, 3) := by decide +kernel
theorem d_CY_join_74 : decode c_CY_join 74 = .ok (.getfield 117, 3) := by decide +kernel
theorem d_CY_join_77 : decode c_CY_join 77 = .ok (.iload_n 2, 1) := by decide +kernel
theorem d_CY_join_78 : decode c_CY_join 78 = .ok (.aaload, 1) := by decide +kernel
theorem d_CY_join_79 : decode c_CY_join 79 = .ok (.iload_n 1, 1) := by decide +kernel
theorem d_CY_join_80 : decode c_CY_join 80 = .ok (.iload_n 3, 1) := by decide +kernel
theorem d_CY_join_81 : decode c_CY_join 81 = .ok (.iastore, 1) := by decide +kernel
theorem d_CY_join_82 : decode c_CY_join 82 = .ok (.iload 4, 2) := by decide +kernel
theorem d_CY_join_84 : decode c_CY_join 84 = .ok (.ireturn, 1) := by decide +kernel
theorem d_CY_clash_0 : decode c_CY_clash 0 = .ok (.aload_n 0, 1) := by decide +kernel
theorem d_CY_clash_1 : decode c_CY_clash 1 = .ok (.getfield 39, 3) := by decide +kernel
theorem d_CY_clash_4 : decode c_CY_clash 4 = .ok (.iload_n 1, 1) := by decide +kernel
theorem d_CY_clash_5 : decode c_CY_clash 5 = .ok (.invokevirtual 116, 3) := by decide +kernel
theorem d_CY_clash_8 : decode c_CY_clash 8 = .ok (.ifCond .eq 23, 3) := by decide +kernel
theorem d_CY_clash_11 : decode c_CY_clash 11 = .ok (.aload_n 0, 1) := by decide +kernel
theorem d_CY_clash_12 : decode c_CY_clash 12 = .ok (.getfield 39, 3) := by decide +kernel
theorem d_CY_clash_15 : decode c_CY_clash 15 = .ok (.iload_n 2, 1) := by decide +kernel
theorem d_CY_clash_16 : decode c_CY_clash 16 = .ok (.invokevirtual 116, 3) := by decide +kernel
theorem d_CY_clash_19 : decode c_CY_clash 19 = .ok (.ifCond .eq 12, 3) := by decide +kernel
theorem d_CY_clash_22 : decode c_CY_clash 22 = .ok (.iload_n 1, 1) := by decide +kernel
theorem d_CY_clash_23 : decode c_CY_clash 23 = .ok (.iload_n 2, 1) := by decide +kernel
theorem d_CY_clash_24 : decode c_CY_clash 24 = .ok (.if_icmp .eq 7, 3) := by decide +kernel
theorem d_CY_clash_27 : decode c_CY_clash 27 = .ok (.iconst 1, 1) := by decide +kernel
theorem d_CY_clash_28 : decode c_CY_clash 28 = .ok (.goto 4, 3) := by decide +kernel
theorem d_CY_clash_31 : decode c_CY_clash 31 = .ok (.iconst 0, 1) := by decide +kernel
theorem d_CY_clash_32 : decode c_CY_clash 32 = .ok (.invokestatic 55, 3) := by decide +kernel
theorem d_CY_clash_35 : decode c_CY_clash 35 = .ok (.aload_n 0, 1) := by decide +kernel
theorem d_CY_clash_36 : decode c_CY_clash 36 = .ok (.getfield 39, 3) := by decide +kernel
theorem d_CY_clash_39 : decode c_CY_clash 39 = .ok (.getfield 120, 3) := by decide +kernel
theorem d_CY_clash_42 : decode c_CY_clash 42 = .ok (.iload_n 1, 1) := by decide +kernel
theorem d_CY_clash_43 : decode c_CY_clash 43 = .ok (.iaload, 1) := by decide +kernel
theorem d_CY_clash_44 : decode c_CY_clash 44 = .ok (.iload_n 2, 1) := by decide +kernel
theorem d_CY_clash_45 : decode c_CY_clash 45 = .ok (.invokestatic 123, 3) := by decide +kernel
theorem d_CY_clash_48 : decode c_CY_clash 48 = .ok (.istore 4, 2) := by decide +kernel
theorem d_CY_clash_50 : decode c_CY_clash 50 = .ok (.aload_n 0, 1) := by decide +kernel
theorem d_CY_clash_51 : decode c_CY_clash 51 = .ok (.getfield 39, 3) := by decide +kernel
theorem d_CY_clash_54 : decode c_CY_clash 54 = .ok (.getfield 120, 3) := by decide +kernel
theorem d_CY_clash_57 : decode c_CY_clash 57 = .ok (.iload_n 1, 1) := by decide +kernel
theorem d_CY_clash_58 : decode c_CY_clash 58 = .ok (.aload_n 0, 1) := by decide +kernel
theorem d_CY_clash_59 : decode c_CY_clash 59 = .ok (.getfield 39, 3) := by decide +kernel
theorem d_CY_clash_62 : decode c_CY_clash 62 = .ok (.getfield 120, 3) := by decide +kernel
theorem d_CY_clash_65 : decode c_CY_clash 65 = .ok (.iload_n 1, 1) := by decide +kernel
theorem d_CY_clash_66 : decode c_CY_clash 66 = .ok (.iaload, 1) := by decide +kernel
theorem d_CY_clash_67 : decode c_CY_clash 67 = .ok (.iload_n 2, 1) := by decide +kernel
theorem d_CY_clash_68 : decode c_CY_clash 68 = .ok (.iload_n 3, 1) := by decide +kernel
theorem d_CY_clash_69 : decode c_CY_clash 69 = .ok (.invokestatic 126, 3) := by decide +kernel
theorem d_CY_clash_72 : decode c_CY_clash 72 = .ok (.iastore, 1) := by decide +kernel
theorem d_CY_clash_73 : decode c_CY_clash 73 = .ok (.aload_n 0, 1) := by decide +kernel
theorem d_CY_clash_74 : decode c_CY_clash 74 = .ok (.getfield 39, 3) := by decide +kernel
theorem d_CY_clash_77 : decode c_CY_clash 77 = .ok (.getfield 120, 3) := by decide +kernel
theorem d_CY_clash_80 : decode c_CY_clash 80 = .ok (.iload_n 2, 1) := by decide +kernel
theorem d_CY_clash_81 : decode c_CY_clash 81 = .ok (.aload_n 0, 1) := by decide +kernel
theorem d_CY_clash_82 : decode c_CY_clash 82 = .ok (.getfield 39, 3) := by decide +kernel
theorem d_CY_clash_85 : decode c_CY_clash 85 = .ok (.getfield 120, 3) := by decide +kernel
theorem d_CY_clash_88 : decode c_CY_clash 88 = .ok (.iload_n 2, 1) := by decide +kernel
theorem d_CY_clash_89 : decode c_CY_clash 89 = .ok (.iaload, 1) := by decide +kernel
theorem d_CY_clash_90 : decode c_CY_clash 90 = .ok (.iload_n 1, 1) := by decide +kernel
theorem d_CY_clash_91 : decode c_CY_clash 91 = .ok (.iload_n 3, 1) := by decide +kernel
theorem d_CY_clash_92 : decode c_CY_clash 92 = .ok (.invokestatic 126, 3) := by decide +kernel
theorem d_CY_clash_95 : decode c_CY_clash 95 = .ok (.iastore, 1) := by decide +kernel
theorem d_CY_clash_96 : decode c_CY_clash 96 = .ok (.iload 4, 2) := by decide +kernel
theorem d_CY_clash_98 : decode c_CY_clash 98 = .ok (.ireturn, 1) := by decide +kernel
theorem d_CY_needs_0 : decode c_CY_needs 0 = .ok (.aload_n 0, 1) := by decide +kernel
theorem d_CY_needs_1 : decode c_CY_needs 1 = .ok (.getfield 39, 3) := by decide +kernel
theorem d_CY_needs_4 : decode c_CY_needs 4 = .ok (.iload_n 1, 1) := by decide +kernel
theorem d_CY_needs_5 : decode c_CY_needs 5 = .ok (.invokevirtual 116, 3) := by decide +kernel
theorem d_CY_needs_8 : decode c_CY_needs 8 = .ok (.ifCond .eq 28, 3) := by decide +kernel
theorem d_CY_needs_11 : decode c_CY_needs 11 = .ok (.iload_n 2, 1) := by decide +kernel
theorem d_CY_needs_12 : decode c_CY_needs 12 = .ok (.iconst (-1), 1) := by decide +kernel
theorem d_CY_needs_13 : decode c_CY_needs 13 = .ok (.if_icmp .eq 14, 3) := by decide +kernel
theorem d_CY_needs_16 : decode c_CY_needs 16 = .ok (.aload_n 0, 1) := by decide +kernel
theorem d_CY_needs_17 : decode c_CY_needs 17 = .ok (.getfield 39, 3) := by decide +kernel
theorem d_CY_needs_20 : decode c_CY_needs 20 = .ok (.iload_n 2, 1) := by decide +kernel
theorem d_CY_needs_21 : decode c_CY_needs 21 = .ok (.invokevirtual 116, 3) := by decide +kernel
theorem d_CY_needs_24 : decode c_CY_needs 24 = .ok (.ifCond .eq 12, 3) := by decide +kernel
theorem d_CY_needs_27 : decode c_CY_needs 27 = .ok (.iload_n 1, 1) := by decide +kernel
theorem d_CY_needs_28 : decode c_CY_needs 28 = .ok (.iload_n 2, 1) := by decide +kernel
theorem d_CY_needs_29 : decode c_CY_needs 29 = .ok (.if_icmp .eq 7, 3) := by decide +kernel
theorem d_CY_needs_32 : decode c_CY_needs 32 = .ok (.iconst 1, 1) := by decide +kernel
theorem d_CY_needs_33 : decode c_CY_needs 33 = .ok (.goto 4, 3) := by decide +kernel
theorem d_CY_needs_36 : decode c_CY_needs 36 = .ok (.iconst 0, 1) := by decide +kernel
theorem d_CY_needs_37 : decode c_CY_needs 37 = .ok (.invokestatic 55, 3) := by decide +kernel
theorem d_CY_needs_40 : decode c_CY_needs 40 = .ok (.aload_n 0, 1) := by decide +kernel
theorem d_CY_needs_41 : decode c_CY_needs 41 = .ok (.getfield 39, 3) := by decide +kernel
theorem d_CY_needs_44 : decode c_CY_needs 44 = .ok (.getfield 130, 3) := by decide +kernel
theorem d_CY_needs_47 : decode c_CY_needs 47 = .ok (.iload_n 1, 1) := by decide +kernel
theorem d_CY_needs_48 : decode c_CY_needs 48 = .ok (.iaload, 1) := by decide +kernel
theorem d_CY_needs_49 : decode c_CY_needs 49 = .ok (.istore_n 3, 1) := by decide +kernel
theorem d_CY_needs_50 : decode c_CY_needs 50 = .ok (.aload_n 0, 1) := by decide +kernel
theorem d_CY_needs_51 : decode c_CY_needs 51 = .ok (.getfield 39, 3) := by decide +kernel
theorem d_CY_needs_54 : decode c_CY_needs 54 = .ok (.getfield 130, 3) := by decide +kernel
theorem d_CY_needs_57 : decode c_CY_needs 57 = .ok (.iload_n 1, 1) := by decide +kernel
theorem d_CY_needs_58 : decode c_CY_needs 58 = .ok (.iload_n 2, 1) := by decide +kernel
theorem d_CY_needs_59 : decode c_CY_needs 59 = .ok (.iastore, 1) := by decide +kernel
theorem d_CY_needs_60 : decode c_CY_needs 60 = .ok (.iload_n 3, 1) := by decide +kernel
theorem d_CY_needs_61 : decode c_CY_needs 61 = .ok (.ireturn, 1) := by decide +kernel
theorem d_CY_choose_0 : decode c_CY_choose 0 = .ok (.aload_n 0, 1) := by decide +kernel
theorem d_CY_choose_1 : decode c_CY_choose 1 = .ok (.getfield 39, 3) := by decide +kernel
theorem d_CY_choose_4 : decode c_CY_choose 4 = .ok (.invokevirtual 133, 3) := by decide +kernel
theorem d_CY_choose_7 : decode c_CY_choose 7 = .ok (.aload_n 0, 1) := by decide +kernel
theorem d_CY_choose_8 : decode c_CY_choose 8 = .ok (.invokevirtual 136, 3) := by decide +kernel
theorem d_CY_choose_11 : decode c_CY_choose 11 = .ok (.aload_n 0, 1) := by decide +kernel
theorem d_CY_choose_12 : decode c_CY_choose 12 = .ok (.getfield 39, 3) := by decide +kernel
theorem d_CY_choose_15 : decode c_CY_choose 15 = .ok (.aload_n 0, 1) := by decide +kernel
theorem d_CY_choose_16 : decode c_CY_choose 16 = .ok (.getfield 39, 3) := by decide +kernel
theorem d_CY_choose_19 : decode c_CY_choose 19 = .ok (.getfield 139, 3) := by decide +kernel
theorem d_CY_choose_22 : decode c_CY_choose 22 = .ok (.invokevirtual 142, 3) := by decide +kernel
theorem d_CY_choose_25 : decode c_CY_choose 25 = .ok (.ireturn, 1) := by decide +kernel
theorem d_CY_chosen_0 : decode c_CY_chosen 0 = .ok (.aload_n 0, 1) := by decide +kernel
theorem d_CY_chosen_1 : decode c_CY_chosen 1 = .ok (.getfield 39, 3) := by decide +kernel
theorem d_CY_chosen_4 : decode c_CY_chosen 4 = .ok (.iload_n 1, 1) := by decide +kernel
theorem d_CY_chosen_5 : decode c_CY_chosen 5 = .ok (.invokevirtual 116, 3) := by decide +kernel
theorem d_CY_chosen_8 : decode c_CY_chosen 8 = .ok (.invokestatic 55, 3) := by decide +kernel
theorem d_CY_chosen_11 : decode c_CY_chosen 11 = .ok (.aload_n 0, 1) := by decide +kernel
theorem d_CY_chosen_12 : decode c_CY_chosen 12 = .ok (.getfield 39, 3) := by decide +kernel
theorem d_CY_chosen_15 : decode c_CY_chosen 15 = .ok (.getfield 139, 3) := by decide +kernel
theorem d_CY_chosen_18 : decode c_CY_chosen 18 = .ok (.iload_n 1, 1) := by decide +kernel
theorem d_CY_chosen_19 : decode c_CY_chosen 19 = .ok (.invokestatic 123, 3) := by decide +kernel
theorem d_CY_chosen_22 : decode c_CY_chosen 22 = .ok (.ireturn, 1) := by decide +kernel
theorem d_CY_costs_0 : decode c_CY_costs 0 = .ok (.aload_n 0, 1) := by decide +kernel
theorem d_CY_costs_1 : decode c_CY_costs 1 = .ok (.getfield 21, 3) := by decide +kernel
theorem d_CY_costs_4 : decode c_CY_costs 4 = .ok (.iload_n 1, 1) := by decide +kernel
theorem d_CY_costs_5 : decode c_CY_costs 5 = .ok (.invokevirtual 47, 3) := by decide +kernel
theorem d_CY_costs_8 : decode c_CY_costs 8 = .ok (.invokestatic 55, 3) := by decide +kernel
theorem d_CY_costs_11 : decode c_CY_costs 11 = .ok (.aload_n 0, 1) := by decide +kernel
theorem d_CY_costs_12 : decode c_CY_costs 12 = .ok (.getfield 39, 3) := by decide +kernel
theorem d_CY_costs_15 : decode c_CY_costs 15 = .ok (.aload_n 0, 1) := by decide +kernel
theorem d_CY_costs_16 : decode c_CY_costs 16 = .ok (.getfield 39, 3) := by decide +kernel
theorem d_CY_costs_19 : decode c_CY_costs 19 = .ok (.getfield 139, 3) := by decide +kernel
theorem d_CY_costs_22 : decode c_CY_costs 22 = .ok (.invokevirtual 145, 3) := by decide +kernel
theorem d_CY_costs_25 : decode c_CY_costs 25 = .ok (.aload_n 0, 1) := by decide +kernel
theorem d_CY_costs_26 : decode c_CY_costs 26 = .ok (.getfield 39, 3) := by decide +kernel
theorem d_CY_costs_29 : decode c_CY_costs 29 = .ok (.getfield 148, 3) := by decide +kernel
theorem d_CY_costs_32 : decode c_CY_costs 32 = .ok (.iload_n 1, 1) := by decide +kernel
theorem d_CY_costs_33 : decode c_CY_costs 33 = .ok (.iaload, 1) := by decide +kernel
theorem d_CY_costs_34 : decode c_CY_costs 34 = .ok (.ireturn, 1) := by decide +kernel
theorem d_CY_lacks_0 : decode c_CY_lacks 0 = .ok (.iload_n 1, 1) := by decide +kernel
theorem d_CY_lacks_1 : decode c_CY_lacks 1 = .ok (.aload_n 0, 1) := by decide +kernel
theorem d_CY_lacks_2 : decode c_CY_lacks 2 = .ok (.getfield 39, 3) := by decide +kernel
theorem d_CY_lacks_5 : decode c_CY_lacks 5 = .ok (.invokevirtual 151, 3) := by decide +kernel
theorem d_CY_lacks_8 : decode c_CY_lacks 8 = .ok (.iand, 1) := by decide +kernel
theorem d_CY_lacks_9 : decode c_CY_lacks 9 = .ok (.istore_n 2, 1) := by decide +kernel
theorem d_CY_lacks_10 : decode c_CY_lacks 10 = .ok (.aload_n 0, 1) := by decide +kernel
theorem d_CY_lacks_11 : decode c_CY_lacks 11 = .ok (.getfield 39, 3) := by decide +kernel
theorem d_CY_lacks_14 : decode c_CY_lacks 14 = .ok (.iload_n 2, 1) := by decide +kernel
theorem d_CY_lacks_15 : decode c_CY_lacks 15 = .ok (.invokevirtual 155, 3) := by decide +kernel
theorem d_CY_lacks_18 : decode c_CY_lacks 18 = .ok (.ifCond .ne 5, 3) := by decide +kernel
theorem d_CY_lacks_21 : decode c_CY_lacks 21 = .ok (.iconst (-1), 1) := by decide +kernel
theorem d_CY_lacks_22 : decode c_CY_lacks 22 = .ok (.ireturn, 1) := by decide +kernel
theorem d_CY_lacks_23 : decode c_CY_lacks 23 = .ok (.aload_n 0, 1) := by decide +kernel
theorem d_CY_lacks_24 : decode c_CY_lacks 24 = .ok (.getfield 39, 3) := by decide +kernel
theorem d_CY_lacks_27 : decode c_CY_lacks 27 = .ok (.iload_n 2, 1) := by decide +kernel
theorem d_CY_lacks_28 : decode c_CY_lacks 28 = .ok (.invokevirtual 145, 3) := by decide +kernel
theorem d_CY_lacks_31 : decode c_CY_lacks 31 = .ok (.aload_n 0, 1) := by decide +kernel
theorem d_CY_lacks_32 : decode c_CY_lacks 32 = .ok (.getfield 39, 3) := by decide +kernel
theorem d_CY_lacks_35 : decode c_CY_lacks 35 = .ok (.invokevirtual 158, 3) := by decide +kernel
theorem d_CY_lacks_38 : decode c_CY_lacks 38 = .ok (.ireturn, 1) := by decide +kernel
theorem d_CY_money_0 : decode c_CY_money 0 = .ok (.iload_n 1, 1) := by decide +kernel
theorem d_CY_money_1 : decode c_CY_money 1 = .ok (.iconst 0, 1) := by decide +kernel
theorem d_CY_money_2 : decode c_CY_money 2 = .ok (.ldc 63, 2) := by decide +kernel
theorem d_CY_money_4 : decode c_CY_money 4 = .ok (.invokestatic 51, 3) := by decide +kernel
theorem d_CY_money_7 : decode c_CY_money 7 = .ok (.ifCond .eq 17, 3) := by decide +kernel
theorem d_CY_money_10 : decode c_CY_money 10 = .ok (.iload_n 2, 1) := by decide +kernel
theorem d_CY_money_11 : decode c_CY_money 11 = .ok (.iconst 0, 1) := by decide +kernel
theorem d_CY_money_12 : decode c_CY_money 12 = .ok (.ldc 63, 2) := by decide +kernel
theorem d_CY_money_14 : decode c_CY_money 14 = .ok (.invokestatic 51, 3) := by decide +kernel
theorem d_CY_money_17 : decode c_CY_money 17 = .ok (.ifCond .eq 7, 3) := by decide +kernel
theorem d_CY_money_20 : decode c_CY_money 20 = .ok (.iconst 1, 1) := by decide +kernel
theorem d_CY_money_21 : decode c_CY_money 21 = .ok (.goto 4, 3) := by decide +kernel
theorem d_CY_money_24 : decode c_CY_money 24 = .ok (.iconst 0, 1) := by decide +kernel
theorem d_CY_money_25 : decode c_CY_money 25 = .ok (.invokestatic 55, 3) := by decide +kernel
theorem d_CY_money_28 : decode c_CY_money 28 = .ok (.aload_n 0, 1) := by decide +kernel
theorem d_CY_money_29 : decode c_CY_money 29 = .ok (.iload_n 1, 1) := by decide +kernel
theorem d_CY_money_30 : decode c_CY_money 30 = .ok (.putfield 161, 3) := by decide +kernel
theorem d_CY_money_33 : decode c_CY_money 33 = .ok (.aload_n 0, 1) := by decide +kernel
theorem d_CY_money_34 : decode c_CY_money 34 = .ok (.iload_n 2, 1) := by decide +kernel
theorem d_CY_money_35 : decode c_CY_money 35 = .ok (.putfield 164, 3) := by decide +kernel
theorem d_CY_money_38 : decode c_CY_money 38 = .ok (.return_, 1) := by decide +kernel
theorem d_CY_reserve_0 : decode c_CY_reserve 0 = .ok (.aload_n 0, 1) := by decide +kernel
theorem d_CY_reserve_1 : decode c_CY_reserve 1 = .ok (.getfield 21, 3) := by decide +kernel
theorem d_CY_reserve_4 : decode c_CY_reserve 4 = .ok (.iload_n 1, 1) := by decide +kernel
theorem d_CY_reserve_5 : decode c_CY_reserve 5 = .ok (.invokevirtual 47, 3) := by decide +kernel
theorem d_CY_reserve_8 : decode c_CY_reserve 8 = .ok (.invokestatic 55, 3) := by decide +kernel
theorem d_CY_reserve_11 : decode c_CY_reserve 11 = .ok (.aload_n 0, 1) := by decide +kernel
theorem d_CY_reserve_12 : decode c_CY_reserve 12 = .ok (.invokevirtual 167, 3) := by decide +kernel
theorem d_CY_reserve_15 : decode c_CY_reserve 15 = .ok (.aload_n 0, 1) := by decide +kernel
theorem d_CY_reserve_16 : decode c_CY_reserve 16 = .ok (.getfield 43, 3) := by decide +kernel
theorem d_CY_reserve_19 : decode c_CY_reserve 19 = .ok (.iload_n 1, 1) := by decide +kernel
theorem d_CY_reserve_20 : decode c_CY_reserve 20 = .ok (.laload, 1) := by decide +kernel
theorem d_CY_reserve_21 : decode c_CY_reserve 21 = .ok (.lreturn, 1) := by decide +kernel
theorem d_CY_shortIn_0 : decode c_CY_shortIn 0 = .ok (.aload_n 0, 1) := by decide +kernel
theorem d_CY_shortIn_1 : decode c_CY_shortIn 1 = .ok (.invokevirtual 167, 3) := by decide +kernel
theorem d_CY_shortIn_4 : decode c_CY_shortIn 4 = .ok (.iconst 0, 1) := by decide +kernel
theorem d_CY_shortIn_5 : decode c_CY_shortIn 5 = .ok (.istore_n 1, 1) := by decide +kernel
theorem d_CY_shortIn_6 : decode c_CY_shortIn 6 = .ok (.iload_n 1, 1) := by decide +kernel
theorem d_CY_shortIn_7 : decode c_CY_shortIn 7 = .ok (.aload_n 0, 1) := by decide +kernel
theorem d_CY_shortIn_8 : decode c_CY_shortIn 8 = .ok (.getfield 21, 3) := by decide +kernel
theorem d_CY_shortIn_11 : decode c_CY_shortIn 11 = .ok (.getfield 170, 3) := by decide +kernel
theorem d_CY_shortIn_14 : decode c_CY_shortIn 14 = .ok (.if_icmp .ge 22, 3) := by decide +kernel
theorem d_CY_shortIn_17 : decode c_CY_shortIn 17 = .ok (.aload_n 0, 1) := by decide +kernel
theorem d_CY_shortIn_18 : decode c_CY_shortIn 18 = .ok (.getfield 43, 3) := by decide +kernel
theorem d_CY_shortIn_21 : decode c_CY_shortIn 21 = .ok (.iload_n 1, 1) := by decide +kernel
theorem d_CY_shortIn_22 : decode c_CY_shortIn 22 = .ok (.laload, 1) := by decide +kernel
theorem d_CY_shortIn_23 : decode c_CY_shortIn 23 = .ok (.lconst 0, 1) := by decide +kernel
theorem d_CY_shortIn_24 : decode c_CY_shortIn 24 = .ok (.lcmp, 1) := by decide +kernel
theorem d_CY_shortIn_25 : decode c_CY_shortIn 25 = .ok (.ifCond .ge 5, 3) := by decide +kernel
theorem d_CY_shortIn_28 : decode c_CY_shortIn 28 = .ok (.iload_n 1, 1) := by decide +kernel
theorem d_CY_shortIn_29 : decode c_CY_shortIn 29 = .ok (.ireturn, 1) := by decide +kernel
theorem d_CY_shortIn_30 : decode c_CY_shortIn 30 = .ok (.iinc 1 1, 3) := by decide +kernel
theorem d_CY_shortIn_33 : decode c_CY_shortIn 33 = .ok (.goto (-27), 3) := by decide +kernel
theorem d_CY_shortIn_36 : decode c_CY_shortIn 36 = .ok (.iconst (-1), 1) := by decide +kernel
theorem d_CY_shortIn_37 : decode c_CY_shortIn 37 = .ok (.ireturn, 1) := by decide +kernel
theorem d_CY_payment_0 : decode c_CY_payment 0 = .ok (.iload_n 1, 1) := by decide +kernel
theorem d_CY_payment_1 : decode c_CY_payment 1 = .ok (.iload_n 2, 1) := by decide +kernel
theorem d_CY_payment_2 : decode c_CY_payment 2 = .ok (.iload_n 3, 1) := by decide +kernel
theorem d_CY_payment_3 : decode c_CY_payment 3 = .ok (.invokestatic 171, 3) := by decide +kernel
theorem d_CY_payment_6 : decode c_CY_payment 6 = .ok (.invokestatic 55, 3) := by decide +kernel
theorem d_CY_payment_9 : decode c_CY_payment 9 = .ok (.iload_n 1, 1) := by decide +kernel
theorem d_CY_payment_10 : decode c_CY_payment 10 = .ok (.iload_n 2, 1) := by decide +kernel
theorem d_CY_payment_11 : decode c_CY_payment 11 = .ok (.iload_n 3, 1) := by decide +kernel
theorem d_CY_payment_12 : decode c_CY_payment 12 = .ok (.invokestatic 176, 3) := by decide +kernel
theorem d_CY_payment_15 : decode c_CY_payment 15 = .ok (.ireturn, 1) := by decide +kernel
theorem d_CY_rest_0 : decode c_CY_rest 0 = .ok (.iload_n 1, 1) := by decide +kernel
theorem d_CY_rest_1 : decode c_CY_rest 1 = .ok (.iload_n 2, 1) := by decide +kernel
theorem d_CY_rest_2 : decode c_CY_rest 2 = .ok (.iload_n 3, 1) := by decide +kernel
theorem d_CY_rest_3 : decode c_CY_rest 3 = .ok (.invokestatic 171, 3) := by decide +kernel
theorem d_CY_rest_6 : decode c_CY_rest 6 = .ok (.ifCond .eq 17, 3) := by decide +kernel
theorem d_CY_rest_9 : decode c_CY_rest 9 = .ok (.iload 4, 2) := by decide +kernel
theorem d_CY_rest_11 : decode c_CY_rest 11 = .ok (.iconst 0, 1) := by decide +kernel
theorem d_CY_rest_12 : decode c_CY_rest 12 = .ok (.iload_n 3, 1) := by decide +kernel
theorem d_CY_rest_13 : decode c_CY_rest 13 = .ok (.invokestatic 51, 3) := by decide +kernel
theorem d_CY_rest_16 : decode c_CY_rest 16 = .ok (.ifCond .eq 7, 3) := by decide +kernel
theorem d_CY_rest_19 : decode c_CY_rest 19 = .ok (.iconst 1, 1) := by decide +kernel
theorem d_CY_rest_20 : decode c_CY_rest 20 = .ok (.goto 4, 3) := by decide +kernel
theorem d_CY_rest_23 : decode c_CY_rest 23 = .ok (.iconst 0, 1) := by decide +kernel
theorem d_CY_rest_24 : decode c_CY_rest 24 = .ok (.invokestatic 55, 3) := by decide +kernel
theorem d_CY_rest_27 : decode c_CY_rest 27 = .ok (.iload 4, 2) := by decide +kernel
theorem d_CY_rest_29 : decode c_CY_rest 29 = .ok (.iload_n 1, 1) := by decide +kernel
theorem d_CY_rest_30 : decode c_CY_rest 30 = .ok (.iload_n 2, 1) := by decide +kernel
theorem d_CY_rest_31 : decode c_CY_rest 31 = .ok (.iload_n 1, 1) := by decide +kernel
theorem d_CY_rest_32 : decode c_CY_rest 32 = .ok (.iload_n 2, 1) := by decide +kernel
theorem d_CY_rest_33 : decode c_CY_rest 33 = .ok (.iload_n 3, 1) := by decide +kernel
theorem d_CY_rest_34 : decode c_CY_rest 34 = .ok (.invokestatic 176, 3) := by decide +kernel
theorem d_CY_rest_37 : decode c_CY_rest 37 = .ok (.i2l, 1) := by decide +kernel
theorem d_CY_rest_38 : decode c_CY_rest 38 = .ok (.invokestatic 179, 3) := by decide +kernel
theorem d_CY_rest_41 : decode c_CY_rest 41 = .ok (.l2i, 1) := by decide +kernel
theorem d_CY_rest_42 : decode c_CY_rest 42 = .ok (.ireturn, 1) := by decide +kernel
theorem d_CY_refuseUnless_0 : decode c_CY_refuseUnless 0 = .ok (.iload_n 0, 1) := by decide +kernel
theorem d_CY_refuseUnless_1 : decode c_CY_refuseUnless 1 = .ok (.ifCond .ne 13, 3) := by decide +kernel
theorem d_CY_refuseUnless_4 : decode c_CY_refuseUnless 4 = .ok (.new 183, 3) := by decide +kernel
theorem d_CY_refuseUnless_7 : decode c_CY_refuseUnless 7 = .ok (.dup, 1) := by decide +kernel
theorem d_CY_refuseUnless_8 : decode c_CY_refuseUnless 8 = .ok (.ldc 185, 2) := by decide +kernel
theorem d_CY_refuseUnless_10 : decode c_CY_refuseUnless 10 = .ok (.invokespecial 187, 3) := by decide +kernel
theorem d_CY_refuseUnless_13 : decode c_CY_refuseUnless 13 = .ok (.athrow, 1) := by decide +kernel
theorem d_CY_refuseUnless_14 : decode c_CY_refuseUnless 14 = .ok (.return_, 1) := by decide +kernel
theorem d_CY_refuseIfFull_0 : decode c_CY_refuseIfFull 0 = .ok (.iload_n 0, 1) := by decide +kernel
theorem d_CY_refuseIfFull_1 : decode c_CY_refuseIfFull 1 = .ok (.ifCond .eq 13, 3) := by decide +kernel
theorem d_CY_refuseIfFull_4 : decode c_CY_refuseIfFull 4 = .ok (.new 190, 3) := by decide +kernel
theorem d_CY_refuseIfFull_7 : decode c_CY_refuseIfFull 7 = .ok (.dup, 1) := by decide +kernel
theorem d_CY_refuseIfFull_8 : decode c_CY_refuseIfFull 8 = .ok (.ldc 192, 2) := by decide +kernel
theorem d_CY_refuseIfFull_10 : decode c_CY_refuseIfFull 10 = .ok (.invokespecial 194, 3) := by decide +kernel
theorem d_CY_refuseIfFull_13 : decode c_CY_refuseIfFull 13 = .ok (.athrow, 1) := by decide +kernel
theorem d_CY_refuseIfFull_14 : decode c_CY_refuseIfFull 14 = .ok (.return_, 1) := by decide +kernel
theorem d_CY_isWithin_0 : decode c_CY_isWithin 0 = .ok (.iload_n 0, 1) := by decide +kernel
theorem d_CY_isWithin_1 : decode c_CY_isWithin 1 = .ok (.iload_n 1, 1) := by decide +kernel
theorem d_CY_isWithin_2 : decode c_CY_isWithin 2 = .ok (.if_icmp .lt 12, 3) := by decide +kernel
theorem d_CY_isWithin_5 : decode c_CY_isWithin 5 = .ok (.iload_n 0, 1) := by decide +kernel
theorem d_CY_isWithin_6 : decode c_CY_isWithin 6 = .ok (.iload_n 2, 1) := by decide +kernel
theorem d_CY_isWithin_7 : decode c_CY_isWithin 7 = .ok (.if_icmp .gt 7, 3) := by decide +kernel
theorem d_CY_isWithin_10 : decode c_CY_isWithin 10 = .ok (.iconst 1, 1) := by decide +kernel
theorem d_CY_isWithin_11 : decode c_CY_isWithin 11 = .ok (.goto 4, 3) := by decide +kernel
theorem d_CY_isWithin_14 : decode c_CY_isWithin 14 = .ok (.iconst 0, 1) := by decide +kernel
theorem d_CY_isWithin_15 : decode c_CY_isWithin 15 = .ok (.ireturn, 1) := by decide +kernel
theorem d_CY_holds_0 : decode c_CY_holds 0 = .ok (.iload_n 0, 1) := by decide +kernel
theorem d_CY_holds_1 : decode c_CY_holds 1 = .ok (.iload_n 1, 1) := by decide +kernel
theorem d_CY_holds_2 : decode c_CY_holds 2 = .ok (.ishr, 1) := by decide +kernel
theorem d_CY_holds_3 : decode c_CY_holds 3 = .ok (.iconst 1, 1) := by decide +kernel
theorem d_CY_holds_4 : decode c_CY_holds 4 = .ok (.iand, 1) := by decide +kernel
theorem d_CY_holds_5 : decode c_CY_holds 5 = .ok (.ifCond .eq 7, 3) := by decide +kernel
theorem d_CY_holds_8 : decode c_CY_holds 8 = .ok (.iconst 1, 1) := by decide +kernel
theorem d_CY_holds_9 : decode c_CY_holds 9 = .ok (.goto 4, 3) := by decide +kernel
theorem d_CY_holds_12 : decode c_CY_holds 12 = .ok (.iconst 0, 1) := by decide +kernel
theorem d_CY_holds_13 : decode c_CY_holds 13 = .ok (.ireturn, 1) := by decide +kernel
theorem d_CY_withBit_0 : decode c_CY_withBit 0 = .ok (.iload_n 2, 1) := by decide +kernel
theorem d_CY_withBit_1 : decode c_CY_withBit 1 = .ok (.ifCond .eq 11, 3) := by decide +kernel
theorem d_CY_withBit_4 : decode c_CY_withBit 4 = .ok (.iload_n 0, 1) := by decide +kernel
theorem d_CY_withBit_5 : decode c_CY_withBit 5 = .ok (.iconst 1, 1) := by decide +kernel
theorem d_CY_withBit_6 : decode c_CY_withBit 6 = .ok (.iload_n 1, 1) := by decide +kernel
theorem d_CY_withBit_7 : decode c_CY_withBit 7 = .ok (.ishl, 1) := by decide +kernel
theorem d_CY_withBit_8 : decode c_CY_withBit 8 = .ok (.ior, 1) := by decide +kernel
theorem d_CY_withBit_9 : decode c_CY_withBit 9 = .ok (.goto 10, 3) := by decide +kernel
theorem d_CY_withBit_12 : decode c_CY_withBit 12 = .ok (.iload_n 0, 1) := by decide +kernel
theorem d_CY_withBit_13 : decode c_CY_withBit 13 = .ok (.iconst 1, 1) := by decide +kernel
theorem d_CY_withBit_14 : decode c_CY_withBit 14 = .ok (.iload_n 1, 1) := by decide +kernel
theorem d_CY_withBit_15 : decode c_CY_withBit 15 = .ok (.ishl, 1) := by decide +kernel
theorem d_CY_withBit_16 : decode c_CY_withBit 16 = .ok (.iconst (-1), 1) := by decide +kernel
theorem d_CY_withBit_17 : decode c_CY_withBit 17 = .ok (.ixor, 1) := by decide +kernel
theorem d_CY_withBit_18 : decode c_CY_withBit 18 = .ok (.iand, 1) := by decide +kernel
theorem d_CY_withBit_19 : decode c_CY_withBit 19 = .ok (.ireturn, 1) := by decide +kernel
theorem d_CY_renewParts_0 : decode c_CY_renewParts 0 = .ok (.aload_n 0, 1) := by decide +kernel
theorem d_CY_renewParts_1 : decode c_CY_renewParts 1 = .ok (.getfield 30, 3) := by decide +kernel
theorem d_CY_renewParts_4 : decode c_CY_renewParts 4 = .ok (.getfield 195, 3) := by decide +kernel
theorem d_CY_renewParts_7 : decode c_CY_renewParts 7 = .ok (.iconst 0, 1) := by decide +kernel
theorem d_CY_renewParts_8 : decode c_CY_renewParts 8 = .ok (.invokestatic 198, 3) := by decide +kernel
theorem d_CY_renewParts_11 : decode c_CY_renewParts 11 = .ok (.iconst 0, 1) := by decide +kernel
theorem d_CY_renewParts_12 : decode c_CY_renewParts 12 = .ok (.istore_n 1, 1) := by decide +kernel
theorem d_CY_renewParts_13 : decode c_CY_renewParts 13 = .ok (.iload_n 1, 1) := by decide +kernel
theorem d_CY_renewParts_14 : decode c_CY_renewParts 14 = .ok (.aload_n 0, 1) := by decide +kernel
theorem d_CY_renewParts_15 : decode c_CY_renewParts 15 = .ok (.getfield 39, 3) := by decide +kernel
theorem d_CY_renewParts_18 : decode c_CY_renewParts 18 = .ok (.getfield 112, 3) := by decide +kernel
theorem d_CY_renewParts_21 : decode c_CY_renewParts 21 = .ok (.if_icmp .ge 69, 3) := by decide +kernel
theorem d_CY_renewParts_24 : decode c_CY_renewParts 24 = .ok (.aload_n 0, 1) := by decide +kernel
theorem d_CY_renewParts_25 : decode c_CY_renewParts 25 = .ok (.getfield 39, 3) := by decide +kernel
theorem d_CY_renewParts_28 : decode c_CY_renewParts 28 = .ok (.getfield 204, 3) := by decide +kernel
theorem d_CY_renewParts_31 : decode c_CY_renewParts 31 = .ok (.iload_n 1, 1) := by decide +kernel
theorem d_CY_renewParts_32 : decode c_CY_renewParts 32 = .ok (.iaload, 1) := by decide +kernel
theorem d_CY_renewParts_33 : decode c_CY_renewParts 33 = .ok (.istore_n 2, 1) := by decide +kernel
theorem d_CY_renewParts_34 : decode c_CY_renewParts 34 = .ok (.iload_n 2, 1) := by decide +kernel
theorem d_CY_renewParts_35 : decode c_CY_renewParts 35 = .ok (.iconst (-1), 1) := by decide +kernel
theorem d_CY_renewParts_36 : decode c_CY_renewParts 36 = .ok (.if_icmp .eq 48, 3) := by decide +kernel
theorem d_CY_renewParts_39 : decode c_CY_renewParts 39 = .ok (.aload_n 0, 1) := by decide +kernel
theorem d_CY_renewParts_40 : decode c_CY_renewParts 40 = .ok (.getfield 39, 3) := by decide +kernel
theorem d_CY_renewParts_43 : decode c_CY_renewParts 43 = .ok (.getfield 139, 3) := by decide +kernel
theorem d_CY_renewParts_46 : decode c_CY_renewParts 46 = .ok (.iload_n 1, 1) := by decide +kernel
theorem d_CY_renewParts_47 : decode c_CY_renewParts 47 = .ok (.invokestatic 123, 3) := by decide +kernel
theorem d_CY_renewParts_50 : decode c_CY_renewParts 50 = .ok (.ifCond .eq 34, 3) := by decide +kernel
theorem d_CY_renewParts_53 : decode c_CY_renewParts 53 = .ok (.aload_n 0, 1) := by decide +kernel
theorem d_CY_renewParts_54 : decode c_CY_renewParts 54 = .ok (.getfield 30, 3) := by decide +kernel
theorem d_CY_renewParts_57 : decode c_CY_renewParts 57 = .ok (.getfield 195, 3) := by decide +kernel
theorem d_CY_renewParts_60 : decode c_CY_renewParts 60 = .ok (.iload_n 2, 1) := by decide +kernel
theorem d_CY_renewParts_61 : decode c_CY_renewParts 61 = .ok (.aload_n 0, 1) := by decide +kernel
theorem d_CY_renewParts_62 : decode c_CY_renewParts 62 = .ok (.getfield 30, 3) := by decide +kernel
theorem d_CY_renewParts_65 : decode c_CY_renewParts 65 = .ok (.getfield 195, 3) := by decide +kernel
theorem d_CY_renewParts_68 : decode c_CY_renewParts 68 = .ok (.iload_n 2, 1) := by decide +kernel
theorem d_CY_renewParts_69 : decode c_CY_renewParts 69 = .ok (.iaload, 1) := by decide +kernel
theorem d_CY_renewParts_70 : decode c_CY_renewParts 70 = .ok (.aload_n 0, 1) := by decide +kernel
theorem d_CY_renewParts_71 : decode c_CY_renewParts 71 = .ok (.getfield 39, 3) := by decide +kernel
theorem d_CY_renewParts_74 : decode c_CY_renewParts 74 = .ok (.getfield 207, 3) := by decide +kernel
theorem d_CY_renewParts_77 : decode c_CY_renewParts 77 = .ok (.iload_n 1, 1) := by decide +kernel
theorem d_CY_renewParts_78 : decode c_CY_renewParts 78 = .ok (.iaload, 1) := by decide +kernel
theorem d_CY_renewParts_79 : decode c_CY_renewParts 79 = .ok (.iconst 1, 1) := by decide +kernel
theorem d_CY_renewParts_80 : decode c_CY_renewParts 80 = .ok (.invokestatic 126, 3) := by decide +kernel
theorem d_CY_renewParts_83 : decode c_CY_renewParts 83 = .ok (.iastore, 1) := by decide +kernel
theorem d_CY_renewParts_84 : decode c_CY_renewParts 84 = .ok (.iinc 1 1, 3) := by decide +kernel
theorem d_CY_renewParts_87 : decode c_CY_renewParts 87 = .ok (.goto (-74), 3) := by decide +kernel
theorem d_CY_renewParts_90 : decode c_CY_renewParts 90 = .ok (.return_, 1) := by decide +kernel
theorem d_CY_reckonReserves_0 : decode c_CY_reckonReserves 0 = .ok (.aload_n 0, 1) := by decide +kernel
theorem d_CY_reckonReserves_1 : decode c_CY_reckonReserves 1 = .ok (.getfield 39, 3) := by decide +kernel
theorem d_CY_reckonReserves_4 : decode c_CY_reckonReserves 4 = .ok (.aload_n 0, 1) := by decide +kernel
theorem d_CY_reckonReserves_5 : decode c_CY_reckonReserves 5 = .ok (.getfield 39, 3) := by decide +kernel
theorem d_CY_reckonReserves_8 : decode c_CY_reckonReserves 8 = .ok (.getfield 139, 3) := by decide +kernel
theorem d_CY_reckonReserves_11 : decode c_CY_reckonReserves 11 = .ok (.invokevirtual 145, 3) := by decide +kernel
theorem d_CY_reckonReserves_14 : decode c_CY_reckonReserves 14 = .ok (.iconst 0, 1) := by decide +kernel
theorem d_CY_reckonReserves_15 : decode c_CY_reckonReserves 15 = .ok (.istore_n 1, 1) := by decide +kernel
theorem d_CY_reckonReserves_16 : decode c_CY_reckonReserves 16 = .ok (.iload_n 1, 1) := by decide +kernel
theorem d_CY_reckonReserves_17 : decode c_CY_reckonReserves 17 = .ok (.aload_n 0, 1) := by decide +kernel
theorem d_CY_reckonReserves_18 : decode c_CY_reckonReserves 18 = .ok (.getfield 21, 3) := by decide +kernel
theorem d_CY_reckonReserves_21 : decode c_CY_reckonReserves 21 = .ok (.getfield 170, 3) := by decide +kernel
theorem d_CY_reckonReserves_24 : decode c_CY_reckonReserves 24 = .ok (.if_icmp .ge 30, 3) := by decide +kernel
theorem d_CY_reckonReserves_27 : decode c_CY_reckonReserves 27 = .ok (.aload_n 0, 1) := by decide +kernel
theorem d_CY_reckonReserves_28 : decode c_CY_reckonReserves 28 = .ok (.getfield 43, 3) := by decide +kernel
theorem d_CY_reckonReserves_31 : decode c_CY_reckonReserves 31 = .ok (.iload_n 1, 1) := by decide +kernel
theorem d_CY_reckonReserves_32 : decode c_CY_reckonReserves 32 = .ok (.aload_n 0, 1) := by decide +kernel
theorem d_CY_reckonReserves_33 : decode c_CY_reckonReserves 33 = .ok (.getfield 164, 3) := by decide +kernel
theorem d_CY_reckonReserves_36 : decode c_CY_reckonReserves 36 = .ok (.aload_n 0, 1) := by decide +kernel
theorem d_CY_reckonReserves_37 : decode c_CY_reckonReserves 37 = .ok (.getfield 39, 3) := by decide +kernel
theorem d_CY_reckonReserves_40 : decode c_CY_reckonReserves 40 = .ok (.getfield 148, 3) := by decide +kernel
theorem d_CY_reckonReserves_43 : decode c_CY_reckonReserves 43 = .ok (.iload_n 1, 1) := by decide +kernel
theorem d_CY_reckonReserves_44 : decode c_CY_reckonReserves 44 = .ok (.iaload, 1) := by decide +kernel
theorem d_CY_reckonReserves_45 : decode c_CY_reckonReserves 45 = .ok (.isub, 1) := by decide +kernel
theorem d_CY_reckonReserves_46 : decode c_CY_reckonReserves 46 = .ok (.i2l, 1) := by decide +kernel
theorem d_CY_reckonReserves_47 : decode c_CY_reckonReserves 47 = .ok (.lastore, 1) := by decide +kernel
theorem d_CY_reckonReserves_48 : decode c_CY_reckonReserves 48 = .ok (.iinc 1 1, 3) := by decide +kernel
theorem d_CY_reckonReserves_51 : decode c_CY_reckonReserves 51 = .ok (.goto (-35), 3) := by decide +kernel
theorem d_CY_reckonReserves_54 : decode c_CY_reckonReserves 54 = .ok (.iconst 0, 1) := by decide +kernel
theorem d_CY_reckonReserves_55 : decode c_CY_reckonReserves 55 = .ok (.istore_n 1, 1) := by decide +kernel
theorem d_CY_reckonReserves_56 : decode c_CY_reckonReserves 56 = .ok (.iload_n 1, 1) := by decide +kernel
theorem d_CY_reckonReserves_57 : decode c_CY_reckonReserves 57 = .ok (.aload_n 0, 1) := by decide +kernel
theorem d_CY_reckonReserves_58 : decode c_CY_reckonReserves 58 = .ok (.getfield 30, 3) := by decide +kernel
theorem d_CY_reckonReserves_61 : decode c_CY_reckonReserves 61 = .ok (.getfield 67, 3) := by decide +kernel
theorem d_CY_reckonReserves_64 : decode c_CY_reckonReserves 64 = .ok (.if_icmp .ge 14, 3) := by decide +kernel
theorem d_CY_reckonReserves_67 : decode c_CY_reckonReserves 67 = .ok (.aload_n 0, 1) := by decide +kernel
theorem d_CY_reckonReserves_68 : decode c_CY_reckonReserves 68 = .ok (.iload_n 1, 1) := by decide +kernel
theorem d_CY_reckonReserves_69 : decode c_CY_reckonReserves 69 = .ok (.invokevirtual 210, 3) := by decide +kernel
theorem d_CY_reckonReserves_72 : decode c_CY_reckonReserves 72 = .ok (.iinc 1 1, 3) := by decide +kernel
theorem d_CY_reckonReserves_75 : decode c_CY_reckonReserves 75 = .ok (.goto (-19), 3) := by decide +kernel
theorem d_CY_reckonReserves_78 : decode c_CY_reckonReserves 78 = .ok (.aload_n 0, 1) := by decide +kernel
theorem d_CY_reckonReserves_79 : decode c_CY_reckonReserves 79 = .ok (.getfield 161, 3) := by decide +kernel
theorem d_CY_reckonReserves_82 : decode c_CY_reckonReserves 82 = .ok (.i2l, 1) := by decide +kernel
theorem d_CY_reckonReserves_83 : decode c_CY_reckonReserves 83 = .ok (.lstore_n 1, 1) := by decide +kernel
theorem d_CY_reckonReserves_84 : decode c_CY_reckonReserves 84 = .ok (.iconst 0, 1) := by decide +kernel
theorem d_CY_reckonReserves_85 : decode c_CY_reckonReserves 85 = .ok (.istore_n 3, 1) := by decide +kernel
theorem d_CY_reckonReserves_86 : decode c_CY_reckonReserves 86 = .ok (.iload_n 3, 1) := by decide +kernel
theorem d_CY_reckonReserves_87 : decode c_CY_reckonReserves 87 = .ok (.aload_n 0, 1) := by decide +kernel
theorem d_CY_reckonReserves_88 : decode c_CY_reckonReserves 88 = .ok (.getfield 21, 3) := by decide +kernel
theorem d_CY_reckonReserves_91 : decode c_CY_reckonReserves 91 = .ok (.getfield 170, 3) := by decide +kernel
theorem d_CY_reckonReserves_94 : decode c_CY_reckonReserves 94 = .ok (.if_icmp .ge 25, 3) := by decide +kernel
theorem d_CY_reckonReserves_97 : decode c_CY_reckonReserves 97 = .ok (.lload_n 1, 1) := by decide +kernel
theorem d_CY_reckonReserves_98 : decode c_CY_reckonReserves 98 = .ok (.aload_n 0, 1) := by decide +kernel
theorem d_CY_reckonReserves_99 : decode c_CY_reckonReserves 99 = .ok (.getfield 43, 3) := by decide +kernel
theorem d_CY_reckonReserves_102 : decode c_CY_reckonReserves 102 = .ok (.iload_n 3, 1) := by decide +kernel
theorem d_CY_reckonReserves_103 : decode c_CY_reckonReserves 103 = .ok (.laload, 1) := by decide +kernel
theorem d_CY_reckonReserves_104 : decode c_CY_reckonReserves 104 = .ok (.ladd, 1) := by decide +kernel
theorem d_CY_reckonReserves_105 : decode c_CY_reckonReserves 105 = .ok (.lstore_n 1, 1) := by decide +kernel
theorem d_CY_reckonReserves_106 : decode c_CY_reckonReserves 106 = .ok (.aload_n 0, 1) := by decide +kernel
theorem d_CY_reckonReserves_107 : decode c_CY_reckonReserves 107 = .ok (.getfield 43, 3) := by decide +kernel
theorem d_CY_reckonReserves_110 : decode c_CY_reckonReserves 110 = .ok (.iload_n 3, 1) := by decide +kernel
theorem d_CY_reckonReserves_111 : decode c_CY_reckonReserves 111 = .ok (.lload_n 1, 1) := by decide +kernel
theorem d_CY_reckonReserves_112 : decode c_CY_reckonReserves 112 = .ok (.lastore, 1) := by decide +kernel
theorem d_CY_reckonReserves_113 : decode c_CY_reckonReserves 113 = .ok (.iinc 3 1, 3) := by decide +kernel
theorem d_CY_reckonReserves_116 : decode c_CY_reckonReserves 116 = .ok (.goto (-30), 3) := by decide +kernel
theorem d_CY_reckonReserves_119 : decode c_CY_reckonReserves 119 = .ok (.return_, 1) := by decide +kernel
theorem d_CY_takeCareFromReserves_0 : decode c_CY_takeCareFromReserves 0 = .ok (.iconst 0, 1) := by decide +kernel
theorem d_CY_takeCareFromReserves_1 : decode c_CY_takeCareFromReserves 1 = .ok (.istore_n 2, 1) := by decide +kernel
theorem d_CY_takeCareFromReserves_2 : decode c_CY_takeCareFromReserves 2 = .ok (.iload_n 2, 1) := by decide +kernel
theorem d_CY_takeCareFromReserves_3 : decode c_CY_takeCareFromReserves 3 = .ok (.aload_n 0, 1) := by decide +kernel
theorem d_CY_takeCareFromReserves_4 : decode c_CY_takeCareFromReserves 4 = .ok (.getfield 21, 3) := by decide +kernel
theorem d_CY_takeCareFromReserves_7 : decode c_CY_takeCareFromReserves 7 = .ok (.getfield 170, 3) := by decide +kernel
theorem d_CY_takeCareFromReserves_10 : decode c_CY_takeCareFromReserves 10 = .ok (.if_icmp .ge 44, 3) := by decide +kernel
theorem d_CY_takeCareFromReserves_13 : decode c_CY_takeCareFromReserves 13 = .ok (.aload_n 0, 1) := by decide +kernel
theorem d_CY_takeCareFromReserves_14 : decode c_CY_takeCareFromReserves 14 = .ok (.getfield 30, 3) := by decide +kernel
theorem d_CY_takeCareFromReserves_17 : decode c_CY_takeCareFromReserves 17 = .ok (.iload_n 1, 1) := by decide +kernel
theorem d_CY_takeCareFromReserves_18 : decode c_CY_takeCareFromReserves 18 = .ok (.iload_n 2, 1) := by decide +kernel
theorem d_CY_takeCareFromReserves_19 : decode c_CY_takeCareFromReserves 19 = .ok (.invokevirtual 213, 3) := by decide +kernel
theorem d_CY_takeCareFromReserves_22 : decode c_CY_takeCareFromReserves 22 = .ok (.aload_n 0, 1) := by decide +kernel
theorem d_CY_takeCareFromReserves_23 : decode c_CY_takeCareFromReserves 23 = .ok (.getfield 43, 3) := by decide +kernel
theorem d_CY_takeCareFromReserves_26 : decode c_CY_takeCareFromReserves 26 = .ok (.iload_n 2, 1) := by decide +kernel
theorem d_CY_takeCareFromReserves_27 : decode c_CY_takeCareFromReserves 27 = .ok (.dup2, 1) := by decide +kernel
theorem d_CY_takeCareFromReserves_28 : decode c_CY_takeCareFromReserves 28 = .ok (.laload, 1) := by decide +kernel
theorem d_CY_takeCareFromReserves_29 : decode c_CY_takeCareFromReserves 29 = .ok (.aload_n 0, 1) := by decide +kernel
theorem d_CY_takeCareFromReserves_30 : decode c_CY_takeCareFromReserves 30 = .ok (.getfield 21, 3) := by decide +kernel
theorem d_CY_takeCareFromReserves_33 : decode c_CY_takeCareFromReserves 33 = .ok (.iload_n 2, 1) := by decide +kernel
theorem d_CY_takeCareFromReserves_34 : decode c_CY_takeCareFromReserves 34 = .ok (.aload_n 0, 1) := by decide +kernel
theorem d_CY_takeCareFromReserves_35 : decode c_CY_takeCareFromReserves 35 = .ok (.getfield 30, 3) := by decide +kernel
theorem d_CY_takeCareFromReserves_38 : decode c_CY_takeCareFromReserves 38 = .ok (.iload_n 1, 1) := by decide +kernel
theorem d_CY_takeCareFromReserves_39 : decode c_CY_takeCareFromReserves 39 = .ok (.invokevirtual 101, 3) := by decide +kernel
theorem d_CY_takeCareFromReserves_42 : decode c_CY_takeCareFromReserves 42 = .ok (.invokevirtual 105, 3) := by decide +kernel
theorem d_CY_takeCareFromReserves_45 : decode c_CY_takeCareFromReserves 45 = .ok (.i2l, 1) := by decide +kernel
theorem d_CY_takeCareFromReserves_46 : decode c_CY_takeCareFromReserves 46 = .ok (.lsub, 1) := by decide +kernel
theorem d_CY_takeCareFromReserves_47 : decode c_CY_takeCareFromReserves 47 = .ok (.lastore, 1) := by decide +kernel
theorem d_CY_takeCareFromReserves_48 : decode c_CY_takeCareFromReserves 48 = .ok (.iinc 2 1, 3) := by decide +kernel
theorem d_CY_takeCareFromReserves_51 : decode c_CY_takeCareFromReserves 51 = .ok (.goto (-49), 3) := by decide +kernel
theorem d_CY_takeCareFromReserves_54 : decode c_CY_takeCareFromReserves 54 = .ok (.return_, 1) := by decide +kernel
theorem d_Lo_isOne_0 : decode c_Lo_isOne 0 = .ok (.iload_n 0, 1) := by decide +kernel
theorem d_Lo_isOne_1 : decode c_Lo_isOne 1 = .ok (.iconst 1, 1) := by decide +kernel
theorem d_Lo_isOne_2 : decode c_Lo_isOne 2 = .ok (.ldc 9, 2) := by decide +kernel
theorem d_Lo_isOne_4 : decode c_Lo_isOne 4 = .ok (.invokestatic 10, 3) := by decide +kernel
theorem d_Lo_isOne_7 : decode c_Lo_isOne 7 = .ok (.ifCond .eq 28, 3) := by decide +kernel
theorem d_Lo_isOne_10 : decode c_Lo_isOne 10 = .ok (.iload_n 1, 1) := by decide +kernel
theorem d_Lo_isOne_11 : decode c_Lo_isOne 11 = .ok (.iconst 0, 1) := by decide +kernel
theorem d_Lo_isOne_12 : decode c_Lo_isOne 12 = .ok (.sipush 2000, 3) := by decide +kernel
theorem d_Lo_isOne_15 : decode c_Lo_isOne 15 = .ok (.invokestatic 10, 3) := by decide +kernel
theorem d_Lo_isOne_18 : decode c_Lo_isOne 18 = .ok (.ifCond .eq 17, 3) := by decide +kernel
theorem d_Lo_isOne_21 : decode c_Lo_isOne 21 = .ok (.iload_n 2, 1) := by decide +kernel
theorem d_Lo_isOne_22 : decode c_Lo_isOne 22 = .ok (.iconst 1, 1) := by decide +kernel
theorem d_Lo_isOne_23 : decode c_Lo_isOne 23 = .ok (.bipush 30, 2) := by decide +kernel
theorem d_Lo_isOne_25 : decode c_Lo_isOne 25 = .ok (.invokestatic 10, 3) := by decide +kernel
theorem d_Lo_isOne_28 : decode c_Lo_isOne 28 = .ok (.ifCond .eq 7, 3) := by decide +kernel
theorem d_Lo_isOne_31 : decode c_Lo_isOne 31 = .ok (.iconst 1, 1) := by decide +kernel
theorem d_Lo_isOne_32 : decode c_Lo_isOne 32 = .ok (.goto 4, 3) := by decide +kernel
theorem d_Lo_isOne_35 : decode c_Lo_isOne 35 = .ok (.iconst 0, 1) := by decide +kernel
theorem d_Lo_isOne_36 : decode c_Lo_isOne 36 = .ok (.ireturn, 1) := by decide +kernel
theorem d_Lo_restBehind_0 : decode c_Lo_restBehind 0 = .ok (.iload_n 1, 1) := by decide +kernel
theorem d_Lo_restBehind_1 : decode c_Lo_restBehind 1 = .ok (.i2l, 1) := by decide +kernel
theorem d_Lo_restBehind_2 : decode c_Lo_restBehind 2 = .ok (.lstore 5, 2) := by decide +kernel
theorem d_Lo_restBehind_4 : decode c_Lo_restBehind 4 = .ok (.iconst 0, 1) := by decide +kernel
theorem d_Lo_restBehind_5 : decode c_Lo_restBehind 5 = .ok (.istore 7, 2) := by decide +kernel
theorem d_Lo_restBehind_7 : decode c_Lo_restBehind 7 = .ok (.iload 7, 2) := by decide +kernel
theorem d_Lo_restBehind_9 : decode c_Lo_restBehind 9 = .ok (.iload_n 0, 1) := by decide +kernel
theorem d_Lo_restBehind_10 : decode c_Lo_restBehind 10 = .ok (.if_icmp .ge 39, 3) := by decide +kernel
theorem d_Lo_restBehind_13 : decode c_Lo_restBehind 13 = .ok (.lload 5, 2) := by decide +kernel
theorem d_Lo_restBehind_15 : decode c_Lo_restBehind 15 = .ok (.iload_n 2, 1) := by decide +kernel
theorem d_Lo_restBehind_16 : decode c_Lo_restBehind 16 = .ok (.i2l, 1) := by decide +kernel
theorem d_Lo_restBehind_17 : decode c_Lo_restBehind 17 = .ok (.lmul, 1) := by decide +kernel
theorem d_Lo_restBehind_18 : decode c_Lo_restBehind 18 = .ok (.ldc2_w 16, 3) := by decide +kernel
theorem d_Lo_restBehind_21 : decode c_Lo_restBehind 21 = .ok (.ladd, 1) := by decide +kernel
theorem d_Lo_restBehind_22 : decode c_Lo_restBehind 22 = .ok (.lconst 1, 1) := by decide +kernel
theorem d_Lo_restBehind_23 : decode c_Lo_restBehind 23 = .ok (.lsub, 1) := by decide +kernel
theorem d_Lo_restBehind_24 : decode c_Lo_restBehind 24 = .ok (.ldc2_w 16, 3) := by decide +kernel
theorem d_Lo_restBehind_27 : decode c_Lo_restBehind 27 = .ok (.ldiv, 1) := by decide +kernel
theorem d_Lo_restBehind_28 : decode c_Lo_restBehind 28 = .ok (.lstore 8, 2) := by decide +kernel
theorem d_Lo_restBehind_30 : decode c_Lo_restBehind 30 = .ok (.lload 5, 2) := by decide +kernel
theorem d_Lo_restBehind_32 : decode c_Lo_restBehind 32 = .ok (.lload 8, 2) := by decide +kernel
theorem d_Lo_restBehind_34 : decode c_Lo_restBehind 34 = .ok (.ladd, 1) := by decide +kernel
theorem d_Lo_restBehind_35 : decode c_Lo_restBehind 35 = .ok (.lload_n 3, 1) := by decide +kernel
theorem d_Lo_restBehind_36 : decode c_Lo_restBehind 36 = .ok (.lsub, 1) := by decide +kernel
theorem d_Lo_restBehind_37 : decode c_Lo_restBehind 37 = .ok (.lconst 0, 1) := by decide +kernel
theorem d_Lo_restBehind_38 : decode c_Lo_restBehind 38 = .ok (.invokestatic 18, 3) := by decide +kernel
theorem d_Lo_restBehind_41 : decode c_Lo_restBehind 41 = .ok (.lstore 5, 2) := by decide +kernel
theorem d_Lo_restBehind_43 : decode c_Lo_restBehind 43 = .ok (.iinc 7 1, 3) := by decide +kernel
theorem d_Lo_restBehind_46 : decode c_Lo_restBehind 46 = .ok (.goto (-39), 3) := by decide +kernel
theorem d_Lo_restBehind_49 : decode c_Lo_restBehind 49 = .ok (.lload 5, 2) := by decide +kernel
theorem d_Lo_restBehind_51 : decode c_Lo_restBehind 51 = .ok (.lreturn, 1) := by decide +kernel
theorem d_Lo_leastPayment_0 : decode c_Lo_leastPayment 0 = .ok (.lconst 0, 1) := by decide +kernel
theorem d_Lo_leastPayment_1 : decode c_Lo_leastPayment 1 = .ok (.lstore_n 3, 1) := by decide +kernel
theorem d_Lo_leastPayment_2 : decode c_Lo_leastPayment 2 = .ok (.bipush 30, 2) := by decide +kernel
theorem d_Lo_leastPayment_4 : decode c_Lo_leastPayment 4 = .ok (.istore 5, 2) := by decide +kernel
theorem d_Lo_leastPayment_6 : decode c_Lo_leastPayment 6 = .ok (.iload 5, 2) := by decide +kernel
theorem d_Lo_leastPayment_8 : decode c_Lo_leastPayment 8 = .ok (.ifCond .lt 33, 3) := by decide +kernel
theorem d_Lo_leastPayment_11 : decode c_Lo_leastPayment 11 = .ok (.lload_n 3, 1) := by decide +kernel
theorem d_Lo_leastPayment_12 : decode c_Lo_leastPayment 12 = .ok (.lconst 1, 1) := by decide +kernel
theorem d_Lo_leastPayment_13 : decode c_Lo_leastPayment 13 = .ok (.iload 5, 2) := by decide +kernel
theorem d_Lo_leastPayment_15 : decode c_Lo_leastPayment 15 = .ok (.lshl, 1) := by decide +kernel
theorem d_Lo_leastPayment_16 : decode c_Lo_leastPayment 16 = .ok (.ladd, 1) := by decide +kernel
theorem d_Lo_leastPayment_17 : decode c_Lo_leastPayment 17 = .ok (.lstore 6, 2) := by decide +kernel
theorem d_Lo_leastPayment_19 : decode c_Lo_leastPayment 19 = .ok (.iload_n 2, 1) := by decide +kernel
theorem d_Lo_leastPayment_20 : decode c_Lo_leastPayment 20 = .ok (.iload_n 0, 1) := by decide +kernel
theorem d_Lo_leastPayment_21 : decode c_Lo_leastPayment 21 = .ok (.iload_n 1, 1) := by decide +kernel
theorem d_Lo_leastPayment_22 : decode c_Lo_leastPayment 22 = .ok (.lload 6, 2) := by decide +kernel
theorem d_Lo_leastPayment_24 : decode c_Lo_leastPayment 24 = .ok (.invokestatic 24, 3) := by decide +kernel
theorem d_Lo_leastPayment_27 : decode c_Lo_leastPayment 27 = .ok (.lconst 0, 1) := by decide +kernel
theorem d_Lo_leastPayment_28 : decode c_Lo_leastPayment 28 = .ok (.lcmp, 1) := by decide +kernel
theorem d_Lo_leastPayment_29 : decode c_Lo_leastPayment 29 = .ok (.ifCond .le 6, 3) := by decide +kernel
theorem d_Lo_leastPayment_32 : decode c_Lo_leastPayment 32 = .ok (.lload 6, 2) := by decide +kernel
theorem d_Lo_leastPayment_34 : decode c_Lo_leastPayment 34 = .ok (.lstore_n 3, 1) := by decide +kernel
theorem d_Lo_leastPayment_35 : decode c_Lo_leastPayment 35 = .ok (.iinc 5 (-1), 3) := by decide +kernel
theorem d_Lo_leastPayment_38 : decode c_Lo_leastPayment 38 = .ok (.goto (-32), 3) := by decide +kernel
theorem d_Lo_leastPayment_41 : decode c_Lo_leastPayment 41 = .ok (.lload_n 3, 1) := by decide +kernel
theorem d_Lo_leastPayment_42 : decode c_Lo_leastPayment 42 = .ok (.lconst 1, 1) := by decide +kernel
theorem d_Lo_leastPayment_43 : decode c_Lo_leastPayment 43 = .ok (.ladd, 1) := by decide +kernel
theorem d_Lo_leastPayment_44 : decode c_Lo_leastPayment 44 = .ok (.l2i, 1) := by decide +kernel
theorem d_Lo_leastPayment_45 : decode c_Lo_leastPayment 45 = .ok (.ireturn, 1) := by decide +kernel
theorem d_Pa_init_0 : decode c_Pa_init 0 = .ok (.aload_n 0, 1) := by decide +kernel
theorem d_Pa_init_1 : decode c_Pa_init 1 = .ok (.invokespecial 1, 3) := by decide +kernel
theorem d_Pa_init_4 : decode c_Pa_init 4 = .ok (.aload_n 0, 1) := by decide +kernel
theorem d_Pa_init_5 : decode c_Pa_init 5 = .ok (.bipush 12, 2) := by decide +kernel
theorem d_Pa_init_7 : decode c_Pa_init 7 = .ok (.newarray .int, 2) := by decide +kernel
theorem d_Pa_init_9 : decode c_Pa_init 9 = .ok (.putfield 9, 3) := by decide +kernel
theorem d_Pa_init_12 : decode c_Pa_init 12 = .ok (.aload_n 0, 1) := by decide +kernel
theorem d_Pa_init_13 : decode c_Pa_init 13 = .ok (.bipush 12, 2) := by decide +kernel
theorem d_Pa_init_15 : decode c_Pa_init 15 = .ok (.newarray .int, 2) := by decide +kernel
theorem d_Pa_init_17 : decode c_Pa_init 17 = .ok (.putfield 13, 3) := by decide +kernel
theorem d_Pa_init_20 : decode c_Pa_init 20 = .ok (.aload_n 0, 1) := by decide +kernel
theorem d_Pa_init_21 : decode c_Pa_init 21 = .ok (.bipush 12, 2) := by decide +kernel
theorem d_Pa_init_23 : decode c_Pa_init 23 = .ok (.bipush 16, 2) := by decide +kernel
theorem d_Pa_init_25 : decode c_Pa_init 25 = .ok (.multianewarray 16 2, 4) := by decide +kernel
theorem d_Pa_init_29 : decode c_Pa_init 29 = .ok (.putfield 18, 3) := by decide +kernel
theorem d_Pa_init_32 : decode c_Pa_init 32 = .ok (.aload_n 0, 1) := by decide +kernel
theorem d_Pa_init_33 : decode c_Pa_init 33 = .ok (.bipush 12, 2) := by decide +kernel
theorem d_Pa_init_35 : decode c_Pa_init 35 = .ok (.iconst 4, 1) := by decide +kernel
theorem d_Pa_init_36 : decode c_Pa_init 36 = .ok (.multianewarray 16 2, 4) := by decide +kernel
theorem d_Pa_init_40 : decode c_Pa_init 40 = .ok (.putfield 21, 3) := by decide +kernel
theorem d_Pa_init_43 : decode c_Pa_init 43 = .ok (.aload_n 0, 1) := by decide +kernel
theorem d_Pa_init_44 : decode c_Pa_init 44 = .ok (.bipush 12, 2) := by decide +kernel
theorem d_Pa_init_46 : decode c_Pa_init 46 = .ok (.newarray .int, 2) := by decide +kernel
theorem d_Pa_init_48 : decode c_Pa_init 48 = .ok (.putfield 24, 3) := by decide +kernel
theorem d_Pa_init_51 : decode c_Pa_init 51 = .ok (.aload_n 0, 1) := by decide +kernel
theorem d_Pa_init_52 : decode c_Pa_init 52 = .ok (.iconst 4, 1) := by decide +kernel
theorem d_Pa_init_53 : decode c_Pa_init 53 = .ok (.newarray .long, 2) := by decide +kernel
theorem d_Pa_init_55 : decode c_Pa_init 55 = .ok (.putfield 27, 3) := by decide +kernel
theorem d_Pa_init_58 : decode c_Pa_init 58 = .ok (.aload_n 0, 1) := by decide +kernel
theorem d_Pa_init_59 : decode c_Pa_init 59 = .ok (.iconst 4, 1) := by decide +kernel
theorem d_Pa_init_60 : decode c_Pa_init 60 = .ok (.newarray .long, 2) := by decide +kernel
theorem d_Pa_init_62 : decode c_Pa_init 62 = .ok (.putfield 31, 3) := by decide +kernel
theorem d_Pa_init_65 : decode c_Pa_init 65 = .ok (.return_, 1) := by decide +kernel
theorem d_Pa_has_0 : decode c_Pa_has 0 = .ok (.iload_n 1, 1) := by decide +kernel
theorem d_Pa_has_1 : decode c_Pa_has 1 = .ok (.ifCond .lt 15, 3) := by decide +kernel
theorem d_Pa_has_4 : decode c_Pa_has 4 = .ok (.iload_n 1, 1) := by decide +kernel
theorem d_Pa_has_5 : decode c_Pa_has 5 = .ok (.aload_n 0, 1) := by decide +kernel
theorem d_Pa_has_6 : decode c_Pa_has 6 = .ok (.getfield 34, 3) := by decide +kernel
theorem d_Pa_has_9 : decode c_Pa_has 9 = .ok (.if_icmp .ge 7, 3) := by decide +kernel
theorem d_Pa_has_12 : decode c_Pa_has 12 = .ok (.iconst 1, 1) := by decide +kernel
theorem d_Pa_has_13 : decode c_Pa_has 13 = .ok (.goto 4, 3) := by decide +kernel
theorem d_Pa_has_16 : decode c_Pa_has 16 = .ok (.iconst 0, 1) := by decide +kernel
theorem d_Pa_has_17 : decode c_Pa_has 17 = .ok (.ireturn, 1) := by decide +kernel
theorem d_Pa_hasState_0 : decode c_Pa_hasState 0 = .ok (.aload_n 0, 1) := by decide +kernel
theorem d_Pa_hasState_1 : decode c_Pa_hasState 1 = .ok (.iload_n 1, 1) := by decide +kernel
theorem d_Pa_hasState_2 : decode c_Pa_hasState 2 = .ok (.invokevirtual 38, 3) := by decide +kernel
theorem d_Pa_hasState_5 : decode c_Pa_hasState 5 = .ok (.ifCond .eq 21, 3) := by decide +kernel
theorem d_Pa_hasState_8 : decode c_Pa_hasState 8 = .ok (.iload_n 2, 1) := by decide +kernel
theorem d_Pa_hasState_9 : decode c_Pa_hasState 9 = .ok (.ifCond .lt 17, 3) := by decide +kernel
theorem d_Pa_hasState_12 : decode c_Pa_hasState 12 = .ok (.iload_n 2, 1) := by decide +kernel
theorem d_Pa_hasState_13 : decode c_Pa_hasState 13 = .ok (.aload_n 0, 1) := by decide +kernel
theorem d_Pa_hasState_14 : decode c_Pa_hasState 14 = .ok (.getfield 9, 3) := by decide +kernel
theorem d_Pa_hasState_17 : decode c_Pa_hasState 17 = .ok (.iload_n 1, 1) := by decide +kernel
theorem d_Pa_hasState_18 : decode c_Pa_hasState 18 = .ok (.iaload, 1) := by decide +kernel
theorem d_Pa_hasState_19 : decode c_Pa_hasState 19 = .ok (.if_icmp .ge 7, 3) := by decide +kernel
theorem d_Pa_hasState_22 : decode c_Pa_hasState 22 = .ok (.iconst 1, 1) := by decide +kernel
theorem d_Pa_hasState_23 : decode c_Pa_hasState 23 = .ok (.goto 4, 3) := by decide +kernel
theorem d_Pa_hasState_26 : decode c_Pa_hasState 26 = .ok (.iconst 0, 1) := by decide +kernel
theorem d_Pa_hasState_27 : decode c_Pa_hasState 27 = .ok (.ireturn, 1) := by decide +kernel
theorem d_Pa_add_0 : decode c_Pa_add 0 = .ok (.aload_n 0, 1) := by decide +kernel
theorem d_Pa_add_1 : decode c_Pa_add 1 = .ok (.getfield 34, 3) := by decide +kernel
theorem d_Pa_add_4 : decode c_Pa_add 4 = .ok (.istore_n 3, 1) := by decide +kernel
theorem d_Pa_add_5 : decode c_Pa_add 5 = .ok (.aload_n 0, 1) := by decide +kernel
theorem d_Pa_add_6 : decode c_Pa_add 6 = .ok (.dup, 1) := by decide +kernel
theorem d_Pa_add_7 : decode c_Pa_add 7 = .ok (.getfield 34, 3) := by decide +kernel
theorem d_Pa_add_10 : decode c_Pa_add 10 = .ok (.iconst 1, 1) := by decide +kernel
theorem d_Pa_add_11 : decode c_Pa_add 11 = .ok (.iadd, 1) := by decide +kernel
theorem d_Pa_add_12 : decode c_Pa_add 12 = .ok (.putfield 34, 3) := by decide +kernel
theorem d_Pa_add_15 : decode c_Pa_add 15 = .ok (.aload_n 0, 1) := by decide +kernel
theorem d_Pa_add_16 : decode c_Pa_add 16 = .ok (.getfield 9, 3) := by decide +kernel
theorem d_Pa_add_19 : decode c_Pa_add 19 = .ok (.iload_n 3, 1) := by decide +kernel
theorem d_Pa_add_20 : decode c_Pa_add 20 = .ok (.iload_n 1, 1) := by decide +kernel
theorem d_Pa_add_21 : decode c_Pa_add 21 = .ok (.iastore, 1) := by decide +kernel
theorem d_Pa_add_22 : decode c_Pa_add 22 = .ok (.aload_n 0, 1) := by decide +kernel
theorem d_Pa_add_23 : decode c_Pa_add 23 = .ok (.getfield 13, 3) := by decide +kernel
theorem d_Pa_add_26 : decode c_Pa_add 26 = .ok (.iload_n 3, 1) := by decide +kernel
theorem d_Pa_add_27 : decode c_Pa_add 27 = .ok (.iload_n 2, 1) := by decide +kernel
theorem d_Pa_add_28 : decode c_Pa_add 28 = .ok (.iastore, 1) := by decide +kernel
theorem d_Pa_add_29 : decode c_Pa_add 29 = .ok (.iconst 0, 1) := by decide +kernel
theorem d_Pa_add_30 : decode c_Pa_add 30 = .ok (.istore 4, 2) := by decide +kernel
theorem d_Pa_add_32 : decode c_Pa_add 32 = .ok (.iload 4, 2) := by decide +kernel
theorem d_Pa_add_34 : decode c_Pa_add 34 = .ok (.iload_n 1, 1) := by decide +kernel
theorem d_Pa_add_35 : decode c_Pa_add 35 = .ok (.if_icmp .ge 20, 3) := by decide +kernel
theorem d_Pa_add_38 : decode c_Pa_add 38 = .ok (.aload_n 0, 1) := by decide +kernel
theorem d_Pa_add_39 : decode c_Pa_add 39 = .ok (.iload_n 3, 1) := by decide +kernel
theorem d_Pa_add_40 : decode c_Pa_add 40 = .ok (.iload 4, 2) := by decide +kernel
theorem d_Pa_add_42 : decode c_Pa_add 42 = .ok (.iload 4, 2) := by decide +kernel
theorem d_Pa_add_44 : decode c_Pa_add 44 = .ok (.bipush 16, 2) := by decide +kernel
theorem d_Pa_add_46 : decode c_Pa_add 46 = .ok (.invokevirtual 42, 3) := by decide +kernel
theorem d_Pa_add_49 : decode c_Pa_add 49 = .ok (.iinc 4 1, 3) := by decide +kernel
theorem d_Pa_add_52 : decode c_Pa_add 52 = .ok (.goto (-20), 3) := by decide +kernel
theorem d_Pa_add_55 : decode c_Pa_add 55 = .ok (.iload_n 3, 1) := by decide +kernel
theorem d_Pa_add_56 : decode c_Pa_add 56 = .ok (.ireturn, 1) := by decide +kernel
theorem d_Pa_going_0 : decode c_Pa_going 0 = .ok (.aload_n 0, 1) := by decide +kernel
theorem d_Pa_going_1 : decode c_Pa_going 1 = .ok (.getfield 18, 3) := by decide +kernel
theorem d_Pa_going_4 : decode c_Pa_going 4 = .ok (.iload_n 1, 1) := by decide +kernel
theorem d_Pa_going_5 : decode c_Pa_going 5 = .ok (.aaload, 1) := by decide +kernel
theorem d_Pa_going_6 : decode c_Pa_going 6 = .ok (.iload_n 2, 1) := by decide +kernel
theorem d_Pa_going_7 : decode c_Pa_going 7 = .ok (.iconst 4, 1) := by decide +kernel
theorem d_Pa_going_8 : decode c_Pa_going 8 = .ok (.imul, 1) := by decide +kernel
theorem d_Pa_going_9 : decode c_Pa_going 9 = .ok (.iload_n 3, 1) := by decide +kernel
theorem d_Pa_going_10 : decode c_Pa_going 10 = .ok (.iadd, 1) := by decide +kernel
theorem d_Pa_going_11 : decode c_Pa_going 11 = .ok (.iaload, 1) := by decide +kernel
theorem d_Pa_going_12 : decode c_Pa_going 12 = .ok (.ireturn, 1) := by decide +kernel
theorem d_Pa_setGoing_0 : decode c_Pa_setGoing 0 = .ok (.aload_n 0, 1) := by decide +kernel
theorem d_Pa_setGoing_1 : decode c_Pa_setGoing 1 = .ok (.getfield 18, 3) := by decide +kernel
theorem d_Pa_setGoing_4 : decode c_Pa_setGoing 4 = .ok (.iload_n 1, 1) := by decide +kernel
theorem d_Pa_setGoing_5 : decode c_Pa_setGoing 5 = .ok (.aaload, 1) := by decide +kernel
theorem d_Pa_setGoing_6 : decode c_Pa_setGoing 6 = .ok (.iload_n 2, 1) := by decide +kernel
theorem d_Pa_setGoing_7 : decode c_Pa_setGoing 7 = .ok (.iconst 4, 1) := by decide +kernel
theorem d_Pa_setGoing_8 : decode c_Pa_setGoing 8 = .ok (.imul, 1) := by decide +kernel
theorem d_Pa_setGoing_9 : decode c_Pa_setGoing 9 = .ok (.iload_n 3, 1) := by decide +kernel
theorem d_Pa_setGoing_10 : decode c_Pa_setGoing 10 = .ok (.iadd, 1) := by decide +kernel
theorem d_Pa_setGoing_11 : decode c_Pa_setGoing 11 = .ok (.iload 4, 2) := by decide +kernel
theorem d_Pa_setGoing_13 : decode c_Pa_setGoing 13 = .ok (.iastore, 1) := by decide +kernel
theorem d_Pa_setGoing_14 : decode c_Pa_setGoing 14 = .ok (.return_, 1) := by decide +kernel
theorem d_Pa_goTo_0 : decode c_Pa_goTo 0 = .ok (.iconst 0, 1) := by decide +kernel
theorem d_Pa_goTo_1 : decode c_Pa_goTo 1 = .ok (.istore_n 3, 1) := by decide +kernel
theorem d_Pa_goTo_2 : decode c_Pa_goTo 2 = .ok (.iload_n 3, 1) := by decide +kernel
theorem d_Pa_goTo_3 : decode c_Pa_goTo 3 = .ok (.iload_n 2, 1) := by decide +kernel
theorem d_Pa_goTo_4 : decode c_Pa_goTo 4 = .ok (.if_icmp .gt 15, 3) := by decide +kernel
theorem d_Pa_goTo_7 : decode c_Pa_goTo 7 = .ok (.aload_n 0, 1) := by decide +kernel
theorem d_Pa_goTo_8 : decode c_Pa_goTo 8 = .ok (.iload_n 1, 1) := by decide +kernel
theorem d_Pa_goTo_9 : decode c_Pa_goTo 9 = .ok (.iload_n 3, 1) := by decide +kernel
theorem d_Pa_goTo_10 : decode c_Pa_goTo 10 = .ok (.invokevirtual 46, 3) := by decide +kernel
theorem d_Pa_goTo_13 : decode c_Pa_goTo 13 = .ok (.iinc 3 1, 3) := by decide +kernel
theorem d_Pa_goTo_16 : decode c_Pa_goTo 16 = .ok (.goto (-14), 3) := by decide +kernel
theorem d_Pa_goTo_19 : decode c_Pa_goTo 19 = .ok (.return_, 1) := by decide +kernel
theorem d_Pa_enter_0 : decode c_Pa_enter 0 = .ok (.iload_n 2, 1) := by decide +kernel
theorem d_Pa_enter_1 : decode c_Pa_enter 1 = .ok (.ifCond .eq 16, 3) := by decide +kernel
theorem d_Pa_enter_4 : decode c_Pa_enter 4 = .ok (.aload_n 0, 1) := by decide +kernel
theorem d_Pa_enter_5 : decode c_Pa_enter 5 = .ok (.getfield 24, 3) := by decide +kernel
theorem d_Pa_enter_8 : decode c_Pa_enter 8 = .ok (.iload_n 1, 1) := by decide +kernel
theorem d_Pa_enter_9 : decode c_Pa_enter 9 = .ok (.iaload, 1) := by decide +kernel
theorem d_Pa_enter_10 : decode c_Pa_enter 10 = .ok (.iload_n 2, 1) := by decide +kernel
theorem d_Pa_enter_11 : decode c_Pa_enter 11 = .ok (.invokestatic 50, 3) := by decide +kernel
theorem d_Pa_enter_14 : decode c_Pa_enter 14 = .ok (.ifCond .eq 11, 3) := by decide +kernel
theorem d_Pa_enter_17 : decode c_Pa_enter 17 = .ok (.aload_n 0, 1) := by decide +kernel
theorem d_Pa_enter_18 : decode c_Pa_enter 18 = .ok (.iload_n 1, 1) := by decide +kernel
theorem d_Pa_enter_19 : decode c_Pa_enter 19 = .ok (.invokevirtual 56, 3) := by decide +kernel
theorem d_Pa_enter_22 : decode c_Pa_enter 22 = .ok (.goto 8, 3) := by decide +kernel
theorem d_Pa_enter_25 : decode c_Pa_enter 25 = .ok (.aload_n 0, 1) := by decide +kernel
theorem d_Pa_enter_26 : decode c_Pa_enter 26 = .ok (.iload_n 1, 1) := by decide +kernel
theorem d_Pa_enter_27 : decode c_Pa_enter 27 = .ok (.invokevirtual 60, 3) := by decide +kernel
theorem d_Pa_enter_30 : decode c_Pa_enter 30 = .ok (.return_, 1) := by decide +kernel
theorem d_Pa_begin_0 : decode c_Pa_begin 0 = .ok (.aload_n 0, 1) := by decide +kernel
theorem d_Pa_begin_1 : decode c_Pa_begin 1 = .ok (.getfield 27, 3) := by decide +kernel
theorem d_Pa_begin_4 : decode c_Pa_begin 4 = .ok (.lconst 0, 1) := by decide +kernel
theorem d_Pa_begin_5 : decode c_Pa_begin 5 = .ok (.invokestatic 63, 3) := by decide +kernel
theorem d_Pa_begin_8 : decode c_Pa_begin 8 = .ok (.aload_n 0, 1) := by decide +kernel
theorem d_Pa_begin_9 : decode c_Pa_begin 9 = .ok (.getfield 27, 3) := by decide +kernel
theorem d_Pa_begin_12 : decode c_Pa_begin 12 = .ok (.aload_n 0, 1) := by decide +kernel
theorem d_Pa_begin_13 : decode c_Pa_begin 13 = .ok (.getfield 13, 3) := by decide +kernel
theorem d_Pa_begin_16 : decode c_Pa_begin 16 = .ok (.iload_n 1, 1) := by decide +kernel
theorem d_Pa_begin_17 : decode c_Pa_begin 17 = .ok (.iaload, 1) := by decide +kernel
theorem d_Pa_begin_18 : decode c_Pa_begin 18 = .ok (.lconst 1, 1) := by decide +kernel
theorem d_Pa_begin_19 : decode c_Pa_begin 19 = .ok (.lastore, 1) := by decide +kernel
theorem d_Pa_begin_20 : decode c_Pa_begin 20 = .ok (.aload_n 0, 1) := by decide +kernel
theorem d_Pa_begin_21 : decode c_Pa_begin 21 = .ok (.iconst 0, 1) := by decide +kernel
theorem d_Pa_begin_22 : decode c_Pa_begin 22 = .ok (.putfield 69, 3) := by decide +kernel
theorem d_Pa_begin_25 : decode c_Pa_begin 25 = .ok (.return_, 1) := by decide +kernel
theorem d_Pa_wear_0 : decode c_Pa_wear 0 = .ok (.iconst 0, 1) := by decide +kernel
theorem d_Pa_wear_1 : decode c_Pa_wear 1 = .ok (.istore_n 2, 1) := by decide +kernel
theorem d_Pa_wear_2 : decode c_Pa_wear 2 = .ok (.iload_n 2, 1) := by decide +kernel
theorem d_Pa_wear_3 : decode c_Pa_wear 3 = .ok (.aload_n 0, 1) := by decide +kernel
theorem d_Pa_wear_4 : decode c_Pa_wear 4 = .ok (.getfield 9, 3) := by decide +kernel
theorem d_Pa_wear_7 : decode c_Pa_wear 7 = .ok (.iload_n 1, 1) := by decide +kernel
theorem d_Pa_wear_8 : decode c_Pa_wear 8 = .ok (.iaload, 1) := by decide +kernel
theorem d_Pa_wear_9 : decode c_Pa_wear 9 = .ok (.if_icmp .ge 58, 3) := by decide +kernel
theorem d_Pa_wear_12 : decode c_Pa_wear 12 = .ok (.lconst 0, 1) := by decide +kernel
theorem d_Pa_wear_13 : decode c_Pa_wear 13 = .ok (.lstore_n 3, 1) := by decide +kernel
theorem d_Pa_wear_14 : decode c_Pa_wear 14 = .ok (.iconst 0, 1) := by decide +kernel
theorem d_Pa_wear_15 : decode c_Pa_wear 15 = .ok (.istore 5, 2) := by decide +kernel
theorem d_Pa_wear_17 : decode c_Pa_wear 17 = .ok (.iload 5, 2) := by decide +kernel
theorem d_Pa_wear_19 : decode c_Pa_wear 19 = .ok (.aload_n 0, 1) := by decide +kernel
theorem d_Pa_wear_20 : decode c_Pa_wear 20 = .ok (.getfield 9, 3) := by decide +kernel
theorem d_Pa_wear_23 : decode c_Pa_wear 23 = .ok (.iload_n 1, 1) := by decide +kernel
theorem d_Pa_wear_24 : decode c_Pa_wear 24 = .ok (.iaload, 1) := by decide +kernel
theorem d_Pa_wear_25 : decode c_Pa_wear 25 = .ok (.if_icmp .ge 29, 3) := by decide +kernel
theorem d_Pa_wear_28 : decode c_Pa_wear 28 = .ok (.lload_n 3, 1) := by decide +kernel
theorem d_Pa_wear_29 : decode c_Pa_wear 29 = .ok (.aload_n 0, 1) := by decide +kernel
theorem d_Pa_wear_30 : decode c_Pa_wear 30 = .ok (.getfield 27, 3) := by decide +kernel
theorem d_Pa_wear_33 : decode c_Pa_wear 33 = .ok (.iload 5, 2) := by decide +kernel
theorem d_Pa_wear_35 : decode c_Pa_wear 35 = .ok (.laload, 1) := by decide +kernel
theorem d_Pa_wear_36 : decode c_Pa_wear 36 = .ok (.aload_n 0, 1) := by decide +kernel
theorem d_Pa_wear_37 : decode c_Pa_wear 37 = .ok (.iload_n 1, 1) := by decide +kernel
theorem d_Pa_wear_38 : decode c_Pa_wear 38 = .ok (.iload 5, 2) := by decide +kernel
theorem d_Pa_wear_40 : decode c_Pa_wear 40 = .ok (.iload_n 2, 1) := by decide +kernel
theorem d_Pa_wear_41 : decode c_Pa_wear 41 = .ok (.invokevirtual 72, 3) := by decide +kernel
theorem d_Pa_wear_44 : decode c_Pa_wear 44 = .ok (.i2l, 1) := by decide +kernel
theorem d_Pa_wear_45 : decode c_Pa_wear 45 = .ok (.lmul, 1) := by decide +kernel
theorem d_Pa_wear_46 : decode c_Pa_wear 46 = .ok (.ladd, 1) := by decide +kernel
theorem d_Pa_wear_47 : decode c_Pa_wear 47 = .ok (.lstore_n 3, 1) := by decide +kernel
theorem d_Pa_wear_48 : decode c_Pa_wear 48 = .ok (.iinc 5 1, 3) := by decide +kernel
theorem d_Pa_wear_51 : decode c_Pa_wear 51 = .ok (.goto (-34), 3) := by decide +kernel
theorem d_Pa_wear_54 : decode c_Pa_wear 54 = .ok (.aload_n 0, 1) := by decide +kernel
theorem d_Pa_wear_55 : decode c_Pa_wear 55 = .ok (.getfield 31, 3) := by decide +kernel
theorem d_Pa_wear_58 : decode c_Pa_wear 58 = .ok (.iload_n 2, 1) := by decide +kernel
theorem d_Pa_wear_59 : decode c_Pa_wear 59 = .ok (.lload_n 3, 1) := by decide +kernel
theorem d_Pa_wear_60 : decode c_Pa_wear 60 = .ok (.lastore, 1) := by decide +kernel
theorem d_Pa_wear_61 : decode c_Pa_wear 61 = .ok (.iinc 2 1, 3) := by decide +kernel
theorem d_Pa_wear_64 : decode c_Pa_wear 64 = .ok (.goto (-62), 3) := by decide +kernel
theorem d_Pa_wear_67 : decode c_Pa_wear 67 = .ok (.aload_n 0, 1) := by decide +kernel
theorem d_Pa_wear_68 : decode c_Pa_wear 68 = .ok (.getfield 31, 3) := by decide +kernel
theorem d_Pa_wear_71 : decode c_Pa_wear 71 = .ok (.iconst 0, 1) := by decide +kernel
theorem d_Pa_wear_72 : decode c_Pa_wear 72 = .ok (.aload_n 0, 1) := by decide +kernel
theorem d_Pa_wear_73 : decode c_Pa_wear 73 = .ok (.getfield 27, 3) := by decide +kernel
theorem d_Pa_wear_76 : decode c_Pa_wear 76 = .ok (.iconst 0, 1) := by decide +kernel
theorem d_Pa_wear_77 : decode c_Pa_wear 77 = .ok (.aload_n 0, 1) := by decide +kernel
theorem d_Pa_wear_78 : decode c_Pa_wear 78 = .ok (.getfield 9, 3) := by decide +kernel
theorem d_Pa_wear_81 : decode c_Pa_wear 81 = .ok (.iload_n 1, 1) := by decide +kernel
theorem d_Pa_wear_82 : decode c_Pa_wear 82 = .ok (.iaload, 1) := by decide +kernel
theorem d_Pa_wear_83 : decode c_Pa_wear 83 = .ok (.invokestatic 76, 3) := by decide +kernel
theorem d_Pa_wear_86 : decode c_Pa_wear 86 = .ok (.aload_n 0, 1) := by decide +kernel
theorem d_Pa_wear_87 : decode c_Pa_wear 87 = .ok (.dup, 1) := by decide +kernel
theorem d_Pa_wear_88 : decode c_Pa_wear 88 = .ok (.getfield 69, 3) := by decide +kernel
theorem d_Pa_wear_91 : decode c_Pa_wear 91 = .ok (.iconst 1, 1) := by decide +kernel
theorem d_Pa_wear_92 : decode c_Pa_wear 92 = .ok (.iadd, 1) := by decide +kernel
theorem d_Pa_wear_93 : decode c_Pa_wear 93 = .ok (.putfield 69, 3) := by decide +kernel
theorem d_Pa_wear_96 : decode c_Pa_wear 96 = .ok (.return_, 1) := by decide +kernel
theorem d_Pa_careTaken_0 : decode c_Pa_careTaken 0 = .ok (.lconst 0, 1) := by decide +kernel
theorem d_Pa_careTaken_1 : decode c_Pa_careTaken 1 = .ok (.lstore_n 2, 1) := by decide +kernel
theorem d_Pa_careTaken_2 : decode c_Pa_careTaken 2 = .ok (.iconst 0, 1) := by decide +kernel
theorem d_Pa_careTaken_3 : decode c_Pa_careTaken 3 = .ok (.istore 4, 2) := by decide +kernel
theorem d_Pa_careTaken_5 : decode c_Pa_careTaken 5 = .ok (.iload 4, 2) := by decide +kernel
theorem d_Pa_careTaken_7 : decode c_Pa_careTaken 7 = .ok (.aload_n 0, 1) := by decide +kernel
theorem d_Pa_careTaken_8 : decode c_Pa_careTaken 8 = .ok (.getfield 9, 3) := by decide +kernel
theorem d_Pa_careTaken_11 : decode c_Pa_careTaken 11 = .ok (.iload_n 1, 1) := by decide +kernel
theorem d_Pa_careTaken_12 : decode c_Pa_careTaken 12 = .ok (.iaload, 1) := by decide +kernel
theorem d_Pa_careTaken_13 : decode c_Pa_careTaken 13 = .ok (.if_icmp .ge 30, 3) := by decide +kernel
theorem d_Pa_careTaken_16 : decode c_Pa_careTaken 16 = .ok (.lload_n 2, 1) := by decide +kernel
theorem d_Pa_careTaken_17 : decode c_Pa_careTaken 17 = .ok (.aload_n 0, 1) := by decide +kernel
theorem d_Pa_careTaken_18 : decode c_Pa_careTaken 18 = .ok (.getfield 27, 3) := by decide +kernel
theorem d_Pa_careTaken_21 : decode c_Pa_careTaken 21 = .ok (.iload 4, 2) := by decide +kernel
theorem d_Pa_careTaken_23 : decode c_Pa_careTaken 23 = .ok (.laload, 1) := by decide +kernel
theorem d_Pa_careTaken_24 : decode c_Pa_careTaken 24 = .ok (.aload_n 0, 1) := by decide +kernel
theorem d_Pa_careTaken_25 : decode c_Pa_careTaken 25 = .ok (.getfield 21, 3) := by decide +kernel
theorem d_Pa_careTaken_28 : decode c_Pa_careTaken 28 = .ok (.iload_n 1, 1) := by decide +kernel
theorem d_Pa_careTaken_29 : decode c_Pa_careTaken 29 = .ok (.aaload, 1) := by decide +kernel
theorem d_Pa_careTaken_30 : decode c_Pa_careTaken 30 = .ok (.iload 4, 2) := by decide +kernel
theorem d_Pa_careTaken_32 : decode c_Pa_careTaken 32 = .ok (.iaload, 1) := by decide +kernel
theorem d_Pa_careTaken_33 : decode c_Pa_careTaken 33 = .ok (.i2l, 1) := by decide +kernel
theorem d_Pa_careTaken_34 : decode c_Pa_careTaken 34 = .ok (.lmul, 1) := by decide +kernel
theorem d_Pa_careTaken_35 : decode c_Pa_careTaken 35 = .ok (.ladd, 1) := by decide +kernel
theorem d_Pa_careTaken_36 : decode c_Pa_careTaken 36 = .ok (.lstore_n 2, 1) := by decide +kernel
theorem d_Pa_careTaken_37 : decode c_Pa_careTaken 37 = .ok (.iinc 4 1, 3) := by decide +kernel
theorem d_Pa_careTaken_40 : decode c_Pa_careTaken 40 = .ok (.goto (-35), 3) := by decide +kernel
theorem d_Pa_careTaken_43 : decode c_Pa_careTaken 43 = .ok (.lload_n 2, 1) := by decide +kernel
theorem d_Pa_careTaken_44 : decode c_Pa_careTaken 44 = .ok (.aload_n 0, 1) := by decide +kernel
theorem d_Pa_careTaken_45 : decode c_Pa_careTaken 45 = .ok (.getfield 69, 3) := by decide +kernel
theorem d_Pa_careTaken_48 : decode c_Pa_careTaken 48 = .ok (.iconst 4, 1) := by decide +kernel
theorem d_Pa_careTaken_49 : decode c_Pa_careTaken 49 = .ok (.imul, 1) := by decide +kernel
theorem d_Pa_careTaken_50 : decode c_Pa_careTaken 50 = .ok (.lshr, 1) := by decide +kernel
theorem d_Pa_careTaken_51 : decode c_Pa_careTaken 51 = .ok (.l2i, 1) := by decide +kernel
theorem d_Pa_careTaken_52 : decode c_Pa_careTaken 52 = .ok (.ireturn, 1) := by decide +kernel
theorem d_Pa_greatestState_0 : decode c_Pa_greatestState 0 = .ok (.iconst 0, 1) := by decide +kernel
theorem d_Pa_greatestState_1 : decode c_Pa_greatestState 1 = .ok (.istore_n 2, 1) := by decide +kernel
theorem d_Pa_greatestState_2 : decode c_Pa_greatestState 2 = .ok (.iconst 1, 1) := by decide +kernel
theorem d_Pa_greatestState_3 : decode c_Pa_greatestState 3 = .ok (.istore_n 3, 1) := by decide +kernel
theorem d_Pa_greatestState_4 : decode c_Pa_greatestState 4 = .ok (.iload_n 3, 1) := by decide +kernel
theorem d_Pa_greatestState_5 : decode c_Pa_greatestState 5 = .ok (.aload_n 0, 1) := by decide +kernel
theorem d_Pa_greatestState_6 : decode c_Pa_greatestState 6 = .ok (.getfield 9, 3) := by decide +kernel
theorem d_Pa_greatestState_9 : decode c_Pa_greatestState 9 = .ok (.iload_n 1, 1) := by decide +kernel
theorem d_Pa_greatestState_10 : decode c_Pa_greatestState 10 = .ok (.iaload, 1) := by decide +kernel
theorem d_Pa_greatestState_11 : decode c_Pa_greatestState 11 = .ok (.if_icmp .ge 27, 3) := by decide +kernel
theorem d_Pa_greatestState_14 : decode c_Pa_greatestState 14 = .ok (.aload_n 0, 1) := by decide +kernel
theorem d_Pa_greatestState_15 : decode c_Pa_greatestState 15 = .ok (.getfield 27, 3) := by decide +kernel
theorem d_Pa_greatestState_18 : decode c_Pa_greatestState 18 = .ok (.iload_n 3, 1) := by decide +kernel
theorem d_Pa_greatestState_19 : decode c_Pa_greatestState 19 = .ok (.laload, 1) := by decide +kernel
theorem d_Pa_greatestState_20 : decode c_Pa_greatestState 20 = .ok (.aload_n 0, 1) := by decide +kernel
theorem d_Pa_greatestState_21 : decode c_Pa_greatestState 21 = .ok (.getfield 27, 3) := by decide +kernel
theorem d_Pa_greatestState_24 : decode c_Pa_greatestState 24 = .ok (.iload_n 2, 1) := by decide +kernel
theorem d_Pa_greatestState_25 : decode c_Pa_greatestState 25 = .ok (.laload, 1) := by decide +kernel
theorem d_Pa_greatestState_26 : decode c_Pa_greatestState 26 = .ok (.lcmp, 1) := by decide +kernel
theorem d_Pa_greatestState_27 : decode c_Pa_greatestState 27 = .ok (.ifCond .lt 5, 3) := by decide +kernel
theorem d_Pa_greatestState_30 : decode c_Pa_greatestState 30 = .ok (.iload_n 3, 1) := by decide +kernel
theorem d_Pa_greatestState_31 : decode c_Pa_greatestState 31 = .ok (.istore_n 2, 1) := by decide +kernel
theorem d_Pa_greatestState_32 : decode c_Pa_greatestState 32 = .ok (.iinc 3 1, 3) := by decide +kernel
theorem d_Pa_greatestState_35 : decode c_Pa_greatestState 35 = .ok (.goto (-31), 3) := by decide +kernel
theorem d_Pa_greatestState_38 : decode c_Pa_greatestState 38 = .ok (.iload_n 2, 1) := by decide +kernel
theorem d_Pa_greatestState_39 : decode c_Pa_greatestState 39 = .ok (.ireturn, 1) := by decide +kernel
theorem d_Wo_init_0 : decode c_Wo_init 0 = .ok (.aload_n 0, 1) := by decide +kernel
theorem d_Wo_init_1 : decode c_Wo_init 1 = .ok (.invokespecial 3, 3) := by decide +kernel
theorem d_Wo_init_4 : decode c_Wo_init 4 = .ok (.aload_n 0, 1) := by decide +kernel
theorem d_Wo_init_5 : decode c_Wo_init 5 = .ok (.bipush 10, 2) := by decide +kernel
theorem d_Wo_init_7 : decode c_Wo_init 7 = .ok (.newarray .int, 2) := by decide +kernel
theorem d_Wo_init_9 : decode c_Wo_init 9 = .ok (.putfield 11, 3) := by decide +kernel
theorem d_Wo_init_12 : decode c_Wo_init 12 = .ok (.aload_n 0, 1) := by decide +kernel
theorem d_Wo_init_13 : decode c_Wo_init 13 = .ok (.bipush 10, 2) := by decide +kernel
theorem d_Wo_init_15 : decode c_Wo_init 15 = .ok (.newarray .int, 2) := by decide +kernel
theorem d_Wo_init_17 : decode c_Wo_init 17 = .ok (.putfield 15, 3) := by decide +kernel
theorem d_Wo_init_20 : decode c_Wo_init 20 = .ok (.aload_n 0, 1) := by decide +kernel
theorem d_Wo_init_21 : decode c_Wo_init 21 = .ok (.bipush 10, 2) := by decide +kernel
theorem d_Wo_init_23 : decode c_Wo_init 23 = .ok (.newarray .int, 2) := by decide +kernel
theorem d_Wo_init_25 : decode c_Wo_init 25 = .ok (.putfield 18, 3) := by decide +kernel
theorem d_Wo_init_28 : decode c_Wo_init 28 = .ok (.aload_n 0, 1) := by decide +kernel
theorem d_Wo_init_29 : decode c_Wo_init 29 = .ok (.bipush 10, 2) := by decide +kernel
theorem d_Wo_init_31 : decode c_Wo_init 31 = .ok (.newarray .int, 2) := by decide +kernel
theorem d_Wo_init_33 : decode c_Wo_init 33 = .ok (.putfield 21, 3) := by decide +kernel
theorem d_Wo_init_36 : decode c_Wo_init 36 = .ok (.aload_n 0, 1) := by decide +kernel
theorem d_Wo_init_37 : decode c_Wo_init 37 = .ok (.bipush 10, 2) := by decide +kernel
theorem d_Wo_init_39 : decode c_Wo_init 39 = .ok (.newarray .int, 2) := by decide +kernel
theorem d_Wo_init_41 : decode c_Wo_init 41 = .ok (.putfield 24, 3) := by decide +kernel
theorem d_Wo_init_44 : decode c_Wo_init 44 = .ok (.aload_n 0, 1) := by decide +kernel
theorem d_Wo_init_45 : decode c_Wo_init 45 = .ok (.bipush 10, 2) := by decide +kernel
theorem d_Wo_init_47 : decode c_Wo_init 47 = .ok (.newarray .int, 2) := by decide +kernel
theorem d_Wo_init_49 : decode c_Wo_init 49 = .ok (.putfield 27, 3) := by decide +kernel
theorem d_Wo_init_52 : decode c_Wo_init 52 = .ok (.aload_n 0, 1) := by decide +kernel
theorem d_Wo_init_53 : decode c_Wo_init 53 = .ok (.bipush 10, 2) := by decide +kernel
theorem d_Wo_init_55 : decode c_Wo_init 55 = .ok (.bipush 10, 2) := by decide +kernel
theorem d_Wo_init_57 : decode c_Wo_init 57 = .ok (.multianewarray 30 2, 4) := by decide +kernel
theorem d_Wo_init_61 : decode c_Wo_init 61 = .ok (.putfield 32, 3) := by decide +kernel
theorem d_Wo_init_64 : decode c_Wo_init 64 = .ok (.aload_n 0, 1) := by decide +kernel
theorem d_Wo_init_65 : decode c_Wo_init 65 = .ok (.bipush 12, 2) := by decide +kernel
theorem d_Wo_init_67 : decode c_Wo_init 67 = .ok (.newarray .int, 2) := by decide +kernel
theorem d_Wo_init_69 : decode c_Wo_init 69 = .ok (.putfield 37, 3) := by decide +kernel
theorem d_Wo_init_72 : decode c_Wo_init 72 = .ok (.aload_n 0, 1) := by decide +kernel
theorem d_Wo_init_73 : decode c_Wo_init 73 = .ok (.aload_n 1, 1) := by decide +kernel
theorem d_Wo_init_74 : decode c_Wo_init 74 = .ok (.putfield 40, 3) := by decide +kernel
theorem d_Wo_init_77 : decode c_Wo_init 77 = .ok (.return_, 1) := by decide +kernel
theorem d_Wo_has_0 : decode c_Wo_has 0 = .ok (.iload_n 1, 1) := by decide +kernel
theorem d_Wo_has_1 : decode c_Wo_has 1 = .ok (.ifCond .lt 15, 3) := by decide +kernel
theorem d_Wo_has_4 : decode c_Wo_has 4 = .ok (.iload_n 1, 1) := by decide +kernel
theorem d_Wo_has_5 : decode c_Wo_has 5 = .ok (.aload_n 0, 1) := by decide +kernel
theorem d_Wo_has_6 : decode c_Wo_has 6 = .ok (.getfield 44, 3) := by decide +kernel
theorem d_Wo_has_9 : decode c_Wo_has 9 = .ok (.if_icmp .ge 7, 3) := by decide +kernel
theorem d_Wo_has_12 : decode c_Wo_has 12 = .ok (.iconst 1, 1) := by decide +kernel
theorem d_Wo_has_13 : decode c_Wo_has 13 = .ok (.goto 4, 3) := by decide +kernel
theorem d_Wo_has_16 : decode c_Wo_has 16 = .ok (.iconst 0, 1) := by decide +kernel
theorem d_Wo_has_17 : decode c_Wo_has 17 = .ok (.ireturn, 1) := by decide +kernel
theorem d_Wo_all_0 : decode c_Wo_all 0 = .ok (.iconst 1, 1) := by decide +kernel
theorem d_Wo_all_1 : decode c_Wo_all 1 = .ok (.aload_n 0, 1) := by decide +kernel
theorem d_Wo_all_2 : decode c_Wo_all 2 = .ok (.getfield 44, 3) := by decide +kernel
theorem d_Wo_all_5 : decode c_Wo_all 5 = .ok (.ishl, 1) := by decide +kernel
theorem d_Wo_all_6 : decode c_Wo_all 6 = .ok (.iconst 1, 1) := by decide +kernel
theorem d_Wo_all_7 : decode c_Wo_all 7 = .ok (.isub, 1) := by decide +kernel
theorem d_Wo_all_8 : decode c_Wo_all 8 = .ok (.ireturn, 1) := by decide +kernel
theorem d_Wo_add_0 : decode c_Wo_add 0 = .ok (.aload_n 0, 1) := by decide +kernel
theorem d_Wo_add_1 : decode c_Wo_add 1 = .ok (.getfield 44, 3) := by decide +kernel
theorem d_Wo_add_4 : decode c_Wo_add 4 = .ok (.istore 5, 2) := by decide +kernel
theorem d_Wo_add_6 : decode c_Wo_add 6 = .ok (.aload_n 0, 1) := by decide +kernel
theorem d_Wo_add_7 : decode c_Wo_add 7 = .ok (.dup, 1) := by decide +kernel
theorem d_Wo_add_8 : decode c_Wo_add 8 = .ok (.getfield 44, 3) := by decide +kernel
theorem d_Wo_add_11 : decode c_Wo_add 11 = .ok (.iconst 1, 1) := by decide +kernel
theorem d_Wo_add_12 : decode c_Wo_add 12 = .ok (.iadd, 1) := by decide +kernel
theorem d_Wo_add_13 : decode c_Wo_add 13 = .ok (.putfield 44, 3) := by decide +kernel
theorem d_Wo_add_16 : decode c_Wo_add 16 = .ok (.aload_n 0, 1) := by decide +kernel
theorem d_Wo_add_17 : decode c_Wo_add 17 = .ok (.getfield 11, 3) := by decide +kernel
theorem d_Wo_add_20 : decode c_Wo_add 20 = .ok (.iload 5, 2) := by decide +kernel
theorem d_Wo_add_22 : decode c_Wo_add 22 = .ok (.iload_n 1, 1) := by decide +kernel
theorem d_Wo_add_23 : decode c_Wo_add 23 = .ok (.iastore, 1) := by decide +kernel
theorem d_Wo_add_24 : decode c_Wo_add 24 = .ok (.aload_n 0, 1) := by decide +kernel
theorem d_Wo_add_25 : decode c_Wo_add 25 = .ok (.getfield 15, 3) := by decide +kernel
theorem d_Wo_add_28 : decode c_Wo_add 28 = .ok (.iload 5, 2) := by decide +kernel
theorem d_Wo_add_30 : decode c_Wo_add 30 = .ok (.iload_n 2, 1) := by decide +kernel
theorem d_Wo_add_31 : decode c_Wo_add 31 = .ok (.iastore, 1) := by decide +kernel
theorem d_Wo_add_32 : decode c_Wo_add 32 = .ok (.aload_n 0, 1) := by decide +kernel
theorem d_Wo_add_33 : decode c_Wo_add 33 = .ok (.getfield 18, 3) := by decide +kernel
theorem d_Wo_add_36 : decode c_Wo_add 36 = .ok (.iload 5, 2) := by decide +kernel
theorem d_Wo_add_38 : decode c_Wo_add 38 = .ok (.iload_n 3, 1) := by decide +kernel
theorem d_Wo_add_39 : decode c_Wo_add 39 = .ok (.iastore, 1) := by decide +kernel
theorem d_Wo_add_40 : decode c_Wo_add 40 = .ok (.aload_n 0, 1) := by decide +kernel
theorem d_Wo_add_41 : decode c_Wo_add 41 = .ok (.getfield 21, 3) := by decide +kernel
theorem d_Wo_add_44 : decode c_Wo_add 44 = .ok (.iload 5, 2) := by decide +kernel
theorem d_Wo_add_46 : decode c_Wo_add 46 = .ok (.iload 4, 2) := by decide +kernel
theorem d_Wo_add_48 : decode c_Wo_add 48 = .ok (.iastore, 1) := by decide +kernel
theorem d_Wo_add_49 : decode c_Wo_add 49 = .ok (.aload_n 0, 1) := by decide +kernel
theorem d_Wo_add_50 : decode c_Wo_add 50 = .ok (.getfield 24, 3) := by decide +kernel
theorem d_Wo_add_53 : decode c_Wo_add 53 = .ok (.iload 5, 2) := by decide +kernel
theorem d_Wo_add_55 : decode c_Wo_add 55 = .ok (.iconst (-1), 1) := by decide +kernel
theorem d_Wo_add_56 : decode c_Wo_add 56 = .ok (.iastore, 1) := by decide +kernel
theorem d_Wo_add_57 : decode c_Wo_add 57 = .ok (.iload 5, 2) := by decide +kernel
theorem d_Wo_add_59 : decode c_Wo_add 59 = .ok (.ireturn, 1) := by decide +kernel
theorem d_Wo_worthOf_0 : decode c_Wo_worthOf 0 = .ok (.iconst 0, 1) := by decide +kernel
theorem d_Wo_worthOf_1 : decode c_Wo_worthOf 1 = .ok (.istore_n 2, 1) := by decide +kernel
theorem d_Wo_worthOf_2 : decode c_Wo_worthOf 2 = .ok (.iconst 0, 1) := by decide +kernel
theorem d_Wo_worthOf_3 : decode c_Wo_worthOf 3 = .ok (.istore_n 3, 1) := by decide +kernel
theorem d_Wo_worthOf_4 : decode c_Wo_worthOf 4 = .ok (.iload_n 3, 1) := by decide +kernel
theorem d_Wo_worthOf_5 : decode c_Wo_worthOf 5 = .ok (.aload_n 0, 1) := by decide +kernel
theorem d_Wo_worthOf_6 : decode c_Wo_worthOf 6 = .ok (.getfield 44, 3) := by decide +kernel
theorem d_Wo_worthOf_9 : decode c_Wo_worthOf 9 = .ok (.if_icmp .ge 26, 3) := by decide +kernel
theorem d_Wo_worthOf_12 : decode c_Wo_worthOf 12 = .ok (.iload_n 1, 1) := by decide +kernel
theorem d_Wo_worthOf_13 : decode c_Wo_worthOf 13 = .ok (.iload_n 3, 1) := by decide +kernel
theorem d_Wo_worthOf_14 : decode c_Wo_worthOf 14 = .ok (.invokestatic 48, 3) := by decide +kernel
theorem d_Wo_worthOf_17 : decode c_Wo_worthOf 17 = .ok (.ifCond .eq 12, 3) := by decide +kernel
theorem d_Wo_worthOf_20 : decode c_Wo_worthOf 20 = .ok (.iload_n 2, 1) := by decide +kernel
theorem d_Wo_worthOf_21 : decode c_Wo_worthOf 21 = .ok (.aload_n 0, 1) := by decide +kernel
theorem d_Wo_worthOf_22 : decode c_Wo_worthOf 22 = .ok (.getfield 18, 3) := by decide +kernel
theorem d_Wo_worthOf_25 : decode c_Wo_worthOf 25 = .ok (.iload_n 3, 1) := by decide +kernel
theorem d_Wo_worthOf_26 : decode c_Wo_worthOf 26 = .ok (.iaload, 1) := by decide +kernel
theorem d_Wo_worthOf_27 : decode c_Wo_worthOf 27 = .ok (.iadd, 1) := by decide +kernel
theorem d_Wo_worthOf_28 : decode c_Wo_worthOf 28 = .ok (.istore_n 2, 1) := by decide +kernel
theorem d_Wo_worthOf_29 : decode c_Wo_worthOf 29 = .ok (.iinc 3 1, 3) := by decide +kernel
theorem d_Wo_worthOf_32 : decode c_Wo_worthOf 32 = .ok (.goto (-28), 3) := by decide +kernel
theorem d_Wo_worthOf_35 : decode c_Wo_worthOf 35 = .ok (.iload_n 2, 1) := by decide +kernel
theorem d_Wo_worthOf_36 : decode c_Wo_worthOf 36 = .ok (.ireturn, 1) := by decide +kernel
theorem d_Wo_agree_0 : decode c_Wo_agree 0 = .ok (.iconst 0, 1) := by decide +kernel
theorem d_Wo_agree_1 : decode c_Wo_agree 1 = .ok (.istore_n 2, 1) := by decide +kernel
theorem d_Wo_agree_2 : decode c_Wo_agree 2 = .ok (.iload_n 2, 1) := by decide +kernel
theorem d_Wo_agree_3 : decode c_Wo_agree 3 = .ok (.aload_n 0, 1) := by decide +kernel
theorem d_Wo_agree_4 : decode c_Wo_agree 4 = .ok (.getfield 44, 3) := by decide +kernel
theorem d_Wo_agree_7 : decode c_Wo_agree 7 = .ok (.if_icmp .ge 39, 3) := by decide +kernel
theorem d_Wo_agree_10 : decode c_Wo_agree 10 = .ok (.iload_n 1, 1) := by decide +kernel
theorem d_Wo_agree_11 : decode c_Wo_agree 11 = .ok (.iload_n 2, 1) := by decide +kernel
theorem d_Wo_agree_12 : decode c_Wo_agree 12 = .ok (.invokestatic 48, 3) := by decide +kernel
theorem d_Wo_agree_15 : decode c_Wo_agree 15 = .ok (.ifCond .eq 25, 3) := by decide +kernel
theorem d_Wo_agree_18 : decode c_Wo_agree 18 = .ok (.aload_n 0, 1) := by decide +kernel
theorem d_Wo_agree_19 : decode c_Wo_agree 19 = .ok (.getfield 27, 3) := by decide +kernel
theorem d_Wo_agree_22 : decode c_Wo_agree 22 = .ok (.iload_n 2, 1) := by decide +kernel
theorem d_Wo_agree_23 : decode c_Wo_agree 23 = .ok (.iaload, 1) := by decide +kernel
theorem d_Wo_agree_24 : decode c_Wo_agree 24 = .ok (.iload_n 1, 1) := by decide +kernel
theorem d_Wo_agree_25 : decode c_Wo_agree 25 = .ok (.iand, 1) := by decide +kernel
theorem d_Wo_agree_26 : decode c_Wo_agree 26 = .ok (.ifCond .ne 12, 3) := by decide +kernel
theorem d_Wo_agree_29 : decode c_Wo_agree 29 = .ok (.aload_n 0, 1) := by decide +kernel
theorem d_Wo_agree_30 : decode c_Wo_agree 30 = .ok (.iload_n 2, 1) := by decide +kernel
theorem d_Wo_agree_31 : decode c_Wo_agree 31 = .ok (.iload_n 1, 1) := by decide +kernel
theorem d_Wo_agree_32 : decode c_Wo_agree 32 = .ok (.invokevirtual 52, 3) := by decide +kernel
theorem d_Wo_agree_35 : decode c_Wo_agree 35 = .ok (.ifCond .eq 5, 3) := by decide +kernel
theorem d_Wo_agree_38 : decode c_Wo_agree 38 = .ok (.iconst 0, 1) := by decide +kernel
theorem d_Wo_agree_39 : decode c_Wo_agree 39 = .ok (.ireturn, 1) := by decide +kernel
theorem d_Wo_agree_40 : decode c_Wo_agree 40 = .ok (.iinc 2 1, 3) := by decide +kernel
theorem d_Wo_agree_43 : decode c_Wo_agree 43 = .ok (.goto (-41), 3) := by decide +kernel
theorem d_Wo_agree_46 : decode c_Wo_agree 46 = .ok (.iconst 1, 1) := by decide +kernel
theorem d_Wo_agree_47 : decode c_Wo_agree 47 = .ok (.ireturn, 1) := by decide +kernel
theorem d_Wo_lacksNeeded_0 : decode c_Wo_lacksNeeded 0 = .ok (.aload_n 0, 1) := by decide +kernel
theorem d_Wo_lacksNeeded_1 : decode c_Wo_lacksNeeded 1 = .ok (.getfield 24, 3) := by decide +kernel
theorem d_Wo_lacksNeeded_4 : decode c_Wo_lacksNeeded 4 = .ok (.iload_n 1, 1) := by decide +kernel
theorem d_Wo_lacksNeeded_5 : decode c_Wo_lacksNeeded 5 = .ok (.iaload, 1) := by decide +kernel
theorem d_Wo_lacksNeeded_6 : decode c_Wo_lacksNeeded 6 = .ok (.istore_n 3, 1) := by decide +kernel
theorem d_Wo_lacksNeeded_7 : decode c_Wo_lacksNeeded 7 = .ok (.iload_n 3, 1) := by decide +kernel
theorem d_Wo_lacksNeeded_8 : decode c_Wo_lacksNeeded 8 = .ok (.iconst (-1), 1) := by decide +kernel
theorem d_Wo_lacksNeeded_9 : decode c_Wo_lacksNeeded 9 = .ok (.if_icmp .eq 30, 3) := by decide +kernel
theorem d_Wo_lacksNeeded_12 : decode c_Wo_lacksNeeded 12 = .ok (.iload_n 2, 1) := by decide +kernel
theorem d_Wo_lacksNeeded_13 : decode c_Wo_lacksNeeded 13 = .ok (.iload_n 3, 1) := by decide +kernel
theorem d_Wo_lacksNeeded_14 : decode c_Wo_lacksNeeded 14 = .ok (.invokestatic 48, 3) := by decide +kernel
theorem d_Wo_lacksNeeded_17 : decode c_Wo_lacksNeeded 17 = .ok (.ifCond .eq 18, 3) := by decide +kernel
theorem d_Wo_lacksNeeded_20 : decode c_Wo_lacksNeeded 20 = .ok (.aload_n 0, 1) := by decide +kernel
theorem d_Wo_lacksNeeded_21 : decode c_Wo_lacksNeeded 21 = .ok (.getfield 11, 3) := by decide +kernel
theorem d_Wo_lacksNeeded_24 : decode c_Wo_lacksNeeded 24 = .ok (.iload_n 1, 1) := by decide +kernel
theorem d_Wo_lacksNeeded_25 : decode c_Wo_lacksNeeded 25 = .ok (.iaload, 1) := by decide +kernel
theorem d_Wo_lacksNeeded_26 : decode c_Wo_lacksNeeded 26 = .ok (.aload_n 0, 1) := by decide +kernel
theorem d_Wo_lacksNeeded_27 : decode c_Wo_lacksNeeded 27 = .ok (.getfield 11, 3) := by decide +kernel
theorem d_Wo_lacksNeeded_30 : decode c_Wo_lacksNeeded 30 = .ok (.iload_n 3, 1) := by decide +kernel
theorem d_Wo_lacksNeeded_31 : decode c_Wo_lacksNeeded 31 = .ok (.iaload, 1) := by decide +kernel
theorem d_Wo_lacksNeeded_32 : decode c_Wo_lacksNeeded 32 = .ok (.if_icmp .ge 7, 3) := by decide +kernel
theorem d_Wo_lacksNeeded_35 : decode c_Wo_lacksNeeded 35 = .ok (.iconst 1, 1) := by decide +kernel
theorem d_Wo_lacksNeeded_36 : decode c_Wo_lacksNeeded 36 = .ok (.goto 4, 3) := by decide +kernel
theorem d_Wo_lacksNeeded_39 : decode c_Wo_lacksNeeded 39 = .ok (.iconst 0, 1) := by decide +kernel
theorem d_Wo_lacksNeeded_40 : decode c_Wo_lacksNeeded 40 = .ok (.ireturn, 1) := by decide +kernel
theorem d_Wo_spend_0 : decode c_Wo_spend 0 = .ok (.aload_n 0, 1) := by decide +kernel
theorem d_Wo_spend_1 : decode c_Wo_spend 1 = .ok (.getfield 37, 3) := by decide +kernel
theorem d_Wo_spend_4 : decode c_Wo_spend 4 = .ok (.iconst 0, 1) := by decide +kernel
theorem d_Wo_spend_5 : decode c_Wo_spend 5 = .ok (.invokestatic 55, 3) := by decide +kernel
theorem d_Wo_spend_8 : decode c_Wo_spend 8 = .ok (.iconst 0, 1) := by decide +kernel
theorem d_Wo_spend_9 : decode c_Wo_spend 9 = .ok (.istore_n 2, 1) := by decide +kernel
theorem d_Wo_spend_10 : decode c_Wo_spend 10 = .ok (.iload_n 2, 1) := by decide +kernel
theorem d_Wo_spend_11 : decode c_Wo_spend 11 = .ok (.aload_n 0, 1) := by decide +kernel
theorem d_Wo_spend_12 : decode c_Wo_spend 12 = .ok (.getfield 44, 3) := by decide +kernel
theorem d_Wo_spend_15 : decode c_Wo_spend 15 = .ok (.if_icmp .ge 54, 3) := by decide +kernel
theorem d_Wo_spend_18 : decode c_Wo_spend 18 = .ok (.iload_n 1, 1) := by decide +kernel
theorem d_Wo_spend_19 : decode c_Wo_spend 19 = .ok (.iload_n 2, 1) := by decide +kernel
theorem d_Wo_spend_20 : decode c_Wo_spend 20 = .ok (.invokestatic 48, 3) := by decide +kernel
theorem d_Wo_spend_23 : decode c_Wo_spend 23 = .ok (.ifCond .eq 40, 3) := by decide +kernel
theorem d_Wo_spend_26 : decode c_Wo_spend 26 = .ok (.aload_n 0, 1) := by decide +kernel
theorem d_Wo_spend_27 : decode c_Wo_spend 27 = .ok (.getfield 11, 3) := by decide +kernel
theorem d_Wo_spend_30 : decode c_Wo_spend 30 = .ok (.iload_n 2, 1) := by decide +kernel
theorem d_Wo_spend_31 : decode c_Wo_spend 31 = .ok (.iaload, 1) := by decide +kernel
theorem d_Wo_spend_32 : decode c_Wo_spend 32 = .ok (.istore_n 3, 1) := by decide +kernel
theorem d_Wo_spend_33 : decode c_Wo_spend 33 = .ok (.aload_n 0, 1) := by decide +kernel
theorem d_Wo_spend_34 : decode c_Wo_spend 34 = .ok (.getfield 37, 3) := by decide +kernel
theorem d_Wo_spend_37 : decode c_Wo_spend 37 = .ok (.iload_n 3, 1) := by decide +kernel
theorem d_Wo_spend_38 : decode c_Wo_spend 38 = .ok (.dup2, 1) := by decide +kernel
theorem d_Wo_spend_39 : decode c_Wo_spend 39 = .ok (.iaload, 1) := by decide +kernel
theorem d_Wo_spend_40 : decode c_Wo_spend 40 = .ok (.aload_n 0, 1) := by decide +kernel
theorem d_Wo_spend_41 : decode c_Wo_spend 41 = .ok (.getfield 40, 3) := by decide +kernel
theorem d_Wo_spend_44 : decode c_Wo_spend 44 = .ok (.iload_n 3, 1) := by decide +kernel
theorem d_Wo_spend_45 : decode c_Wo_spend 45 = .ok (.aload_n 0, 1) := by decide +kernel
theorem d_Wo_spend_46 : decode c_Wo_spend 46 = .ok (.getfield 15, 3) := by decide +kernel
theorem d_Wo_spend_49 : decode c_Wo_spend 49 = .ok (.iload_n 2, 1) := by decide +kernel
theorem d_Wo_spend_50 : decode c_Wo_spend 50 = .ok (.iaload, 1) := by decide +kernel
theorem d_Wo_spend_51 : decode c_Wo_spend 51 = .ok (.invokevirtual 61, 3) := by decide +kernel
theorem d_Wo_spend_54 : decode c_Wo_spend 54 = .ok (.aload_n 0, 1) := by decide +kernel
theorem d_Wo_spend_55 : decode c_Wo_spend 55 = .ok (.iload_n 2, 1) := by decide +kernel
theorem d_Wo_spend_56 : decode c_Wo_spend 56 = .ok (.iload_n 1, 1) := by decide +kernel
theorem d_Wo_spend_57 : decode c_Wo_spend 57 = .ok (.invokevirtual 65, 3) := by decide +kernel
theorem d_Wo_spend_60 : decode c_Wo_spend 60 = .ok (.isub, 1) := by decide +kernel
theorem d_Wo_spend_61 : decode c_Wo_spend 61 = .ok (.iadd, 1) := by decide +kernel
theorem d_Wo_spend_62 : decode c_Wo_spend 62 = .ok (.iastore, 1) := by decide +kernel
theorem d_Wo_spend_63 : decode c_Wo_spend 63 = .ok (.iinc 2 1, 3) := by decide +kernel
theorem d_Wo_spend_66 : decode c_Wo_spend 66 = .ok (.goto (-56), 3) := by decide +kernel
theorem d_Wo_spend_69 : decode c_Wo_spend 69 = .ok (.iconst 0, 1) := by decide +kernel
theorem d_Wo_spend_70 : decode c_Wo_spend 70 = .ok (.istore_n 2, 1) := by decide +kernel
theorem d_Wo_spend_71 : decode c_Wo_spend 71 = .ok (.iload_n 2, 1) := by decide +kernel
theorem d_Wo_spend_72 : decode c_Wo_spend 72 = .ok (.aload_n 0, 1) := by decide +kernel
theorem d_Wo_spend_73 : decode c_Wo_spend 73 = .ok (.getfield 40, 3) := by decide +kernel
theorem d_Wo_spend_76 : decode c_Wo_spend 76 = .ok (.getfield 68, 3) := by decide +kernel
theorem d_Wo_spend_79 : decode c_Wo_spend 79 = .ok (.if_icmp .ge 25, 3) := by decide +kernel
theorem d_Wo_spend_82 : decode c_Wo_spend 82 = .ok (.aload_n 0, 1) := by decide +kernel
theorem d_Wo_spend_83 : decode c_Wo_spend 83 = .ok (.getfield 37, 3) := by decide +kernel
theorem d_Wo_spend_86 : decode c_Wo_spend 86 = .ok (.iload_n 2, 1) := by decide +kernel
theorem d_Wo_spend_87 : decode c_Wo_spend 87 = .ok (.aload_n 0, 1) := by decide +kernel
theorem d_Wo_spend_88 : decode c_Wo_spend 88 = .ok (.getfield 37, 3) := by decide +kernel
theorem d_Wo_spend_91 : decode c_Wo_spend 91 = .ok (.iload_n 2, 1) := by decide +kernel
theorem d_Wo_spend_92 : decode c_Wo_spend 92 = .ok (.iaload, 1) := by decide +kernel
theorem d_Wo_spend_93 : decode c_Wo_spend 93 = .ok (.iconst 0, 1) := by decide +kernel
theorem d_Wo_spend_94 : decode c_Wo_spend 94 = .ok (.invokestatic 69, 3) := by decide +kernel
theorem d_Wo_spend_97 : decode c_Wo_spend 97 = .ok (.iastore, 1) := by decide +kernel
theorem d_Wo_spend_98 : decode c_Wo_spend 98 = .ok (.iinc 2 1, 3) := by decide +kernel
theorem d_Wo_spend_101 : decode c_Wo_spend 101 = .ok (.goto (-30), 3) := by decide +kernel
theorem d_Wo_spend_104 : decode c_Wo_spend 104 = .ok (.return_, 1) := by decide +kernel
theorem d_Wo_savedWithEarlier_0 : decode c_Wo_savedWithEarlier 0 = .ok (.iconst 0, 1) := by decide +kernel
theorem d_Wo_savedWithEarlier_1 : decode c_Wo_savedWithEarlier 1 = .ok (.istore_n 3, 1) := by decide +kernel
theorem d_Wo_savedWithEarlier_2 : decode c_Wo_savedWithEarlier 2 = .ok (.iconst 0, 1) := by decide +kernel
theorem d_Wo_savedWithEarlier_3 : decode c_Wo_savedWithEarlier 3 = .ok (.istore 4, 2) := by decide +kernel
theorem d_Wo_savedWithEarlier_5 : decode c_Wo_savedWithEarlier 5 = .ok (.iload 4, 2) := by decide +kernel
theorem d_Wo_savedWithEarlier_7 : decode c_Wo_savedWithEarlier 7 = .ok (.iload_n 1, 1) := by decide +kernel
theorem d_Wo_savedWithEarlier_8 : decode c_Wo_savedWithEarlier 8 = .ok (.if_icmp .ge 46, 3) := by decide +kernel
theorem d_Wo_savedWithEarlier_11 : decode c_Wo_savedWithEarlier 11 = .ok (.iload_n 2, 1) := by decide +kernel
theorem d_Wo_savedWithEarlier_12 : decode c_Wo_savedWithEarlier 12 = .ok (.iload 4, 2) := by decide +kernel
theorem d_Wo_savedWithEarlier_14 : decode c_Wo_savedWithEarlier 14 = .ok (.invokestatic 48, 3) := by decide +kernel
theorem d_Wo_savedWithEarlier_17 : decode c_Wo_savedWithEarlier 17 = .ok (.ifCond .eq 31, 3) := by decide +kernel
theorem d_Wo_savedWithEarlier_20 : decode c_Wo_savedWithEarlier 20 = .ok (.aload_n 0, 1) := by decide +kernel
theorem d_Wo_savedWithEarlier_21 : decode c_Wo_savedWithEarlier 21 = .ok (.getfield 11, 3) := by decide +kernel
theorem d_Wo_savedWithEarlier_24 : decode c_Wo_savedWithEarlier 24 = .ok (.iload 4, 2) := by decide +kernel
theorem d_Wo_savedWithEarlier_26 : decode c_Wo_savedWithEarlier 26 = .ok (.iaload, 1) := by decide +kernel
theorem d_Wo_savedWithEarlier_27 : decode c_Wo_savedWithEarlier 27 = .ok (.aload_n 0, 1) := by decide +kernel
theorem d_Wo_savedWithEarlier_28 : decode c_Wo_savedWithEarlier 28 = .ok (.getfield 11, 3) := by decide +kernel
theorem d_Wo_savedWithEarlier_31 : decode c_Wo_savedWithEarlier 31 = .ok (.iload_n 1, 1) := by decide +kernel
theorem d_Wo_savedWithEarlier_32 : decode c_Wo_savedWithEarlier 32 = .ok (.iaload, 1) := by decide +kernel
theorem d_Wo_savedWithEarlier_33 : decode c_Wo_savedWithEarlier 33 = .ok (.if_icmp .ne 15, 3) := by decide +kernel
theorem d_Wo_savedWithEarlier_36 : decode c_Wo_savedWithEarlier 36 = .ok (.iload_n 3, 1) := by decide +kernel
theorem d_Wo_savedWithEarlier_37 : decode c_Wo_savedWithEarlier 37 = .ok (.aload_n 0, 1) := by decide +kernel
theorem d_Wo_savedWithEarlier_38 : decode c_Wo_savedWithEarlier 38 = .ok (.getfield 32, 3) := by decide +kernel
theorem d_Wo_savedWithEarlier_41 : decode c_Wo_savedWithEarlier 41 = .ok (.iload_n 1, 1) := by decide +kernel
theorem d_Wo_savedWithEarlier_42 : decode c_Wo_savedWithEarlier 42 = .ok (.aaload, 1) := by decide +kernel
theorem d_Wo_savedWithEarlier_43 : decode c_Wo_savedWithEarlier 43 = .ok (.iload 4, 2) := by decide +kernel
theorem d_Wo_savedWithEarlier_45 : decode c_Wo_savedWithEarlier 45 = .ok (.iaload, 1) := by decide +kernel
theorem d_Wo_savedWithEarlier_46 : decode c_Wo_savedWithEarlier 46 = .ok (.iadd, 1) := by decide +kernel
theorem d_Wo_savedWithEarlier_47 : decode c_Wo_savedWithEarlier 47 = .ok (.istore_n 3, 1) := by decide +kernel
theorem d_Wo_savedWithEarlier_48 : decode c_Wo_savedWithEarlier 48 = .ok (.iinc 4 1, 3) := by decide +kernel
theorem d_Wo_savedWithEarlier_51 : decode c_Wo_savedWithEarlier 51 = .ok (.goto (-46), 3) := by decide +kernel
theorem d_Wo_savedWithEarlier_54 : decode c_Wo_savedWithEarlier 54 = .ok (.iload_n 3, 1) := by decide +kernel
theorem d_Wo_savedWithEarlier_55 : decode c_Wo_savedWithEarlier 55 = .ok (.ireturn, 1) := by decide +kernel
theorem d_Wo_spentOverBudgets_0 : decode c_Wo_spentOverBudgets 0 = .ok (.iconst 0, 1) := by decide +kernel
theorem d_Wo_spentOverBudgets_1 : decode c_Wo_spentOverBudgets 1 = .ok (.istore_n 1, 1) := by decide +kernel
theorem d_Wo_spentOverBudgets_2 : decode c_Wo_spentOverBudgets 2 = .ok (.iconst 0, 1) := by decide +kernel
theorem d_Wo_spentOverBudgets_3 : decode c_Wo_spentOverBudgets 3 = .ok (.istore_n 2, 1) := by decide +kernel
theorem d_Wo_spentOverBudgets_4 : decode c_Wo_spentOverBudgets 4 = .ok (.iload_n 2, 1) := by decide +kernel
theorem d_Wo_spentOverBudgets_5 : decode c_Wo_spentOverBudgets 5 = .ok (.aload_n 0, 1) := by decide +kernel
theorem d_Wo_spentOverBudgets_6 : decode c_Wo_spentOverBudgets 6 = .ok (.getfield 40, 3) := by decide +kernel
theorem d_Wo_spentOverBudgets_9 : decode c_Wo_spentOverBudgets 9 = .ok (.getfield 68, 3) := by decide +kernel
theorem d_Wo_spentOverBudgets_12 : decode c_Wo_spentOverBudgets 12 = .ok (.if_icmp .ge 32, 3) := by decide +kernel
theorem d_Wo_spentOverBudgets_15 : decode c_Wo_spentOverBudgets 15 = .ok (.iload_n 1, 1) := by decide +kernel
theorem d_Wo_spentOverBudgets_16 : decode c_Wo_spentOverBudgets 16 = .ok (.aload_n 0, 1) := by decide +kernel
theorem d_Wo_spentOverBudgets_17 : decode c_Wo_spentOverBudgets 17 = .ok (.getfield 37, 3) := by decide +kernel
theorem d_Wo_spentOverBudgets_20 : decode c_Wo_spentOverBudgets 20 = .ok (.iload_n 2, 1) := by decide +kernel
theorem d_Wo_spentOverBudgets_21 : decode c_Wo_spentOverBudgets 21 = .ok (.iaload, 1) := by decide +kernel
theorem d_Wo_spentOverBudgets_22 : decode c_Wo_spentOverBudgets 22 = .ok (.aload_n 0, 1) := by decide +kernel
theorem d_Wo_spentOverBudgets_23 : decode c_Wo_spentOverBudgets 23 = .ok (.getfield 40, 3) := by decide +kernel
theorem d_Wo_spentOverBudgets_26 : decode c_Wo_spentOverBudgets 26 = .ok (.getfield 74, 3) := by decide +kernel
theorem d_Wo_spentOverBudgets_29 : decode c_Wo_spentOverBudgets 29 = .ok (.iload_n 2, 1) := by decide +kernel
theorem d_Wo_spentOverBudgets_30 : decode c_Wo_spentOverBudgets 30 = .ok (.iaload, 1) := by decide +kernel
theorem d_Wo_spentOverBudgets_31 : decode c_Wo_spentOverBudgets 31 = .ok (.isub, 1) := by decide +kernel
theorem d_Wo_spentOverBudgets_32 : decode c_Wo_spentOverBudgets 32 = .ok (.iconst 0, 1) := by decide +kernel
theorem d_Wo_spentOverBudgets_33 : decode c_Wo_spentOverBudgets 33 = .ok (.invokestatic 69, 3) := by decide +kernel
theorem d_Wo_spentOverBudgets_36 : decode c_Wo_spentOverBudgets 36 = .ok (.iadd, 1) := by decide +kernel
theorem d_Wo_spentOverBudgets_37 : decode c_Wo_spentOverBudgets 37 = .ok (.istore_n 1, 1) := by decide +kernel
theorem d_Wo_spentOverBudgets_38 : decode c_Wo_spentOverBudgets 38 = .ok (.iinc 2 1, 3) := by decide +kernel
theorem d_Wo_spentOverBudgets_41 : decode c_Wo_spentOverBudgets 41 = .ok (.goto (-37), 3) := by decide +kernel
theorem d_Wo_spentOverBudgets_44 : decode c_Wo_spentOverBudgets 44 = .ok (.iload_n 1, 1) := by decide +kernel
theorem d_Wo_spentOverBudgets_45 : decode c_Wo_spentOverBudgets 45 = .ok (.ireturn, 1) := by decide +kernel
theorem d_Wo_spentInAll_0 : decode c_Wo_spentInAll 0 = .ok (.iconst 0, 1) := by decide +kernel
theorem d_Wo_spentInAll_1 : decode c_Wo_spentInAll 1 = .ok (.istore_n 1, 1) := by decide +kernel
theorem d_Wo_spentInAll_2 : decode c_Wo_spentInAll 2 = .ok (.iconst 0, 1) := by decide +kernel
theorem d_Wo_spentInAll_3 : decode c_Wo_spentInAll 3 = .ok (.istore_n 2, 1) := by decide +kernel
theorem d_Wo_spentInAll_4 : decode c_Wo_spentInAll 4 = .ok (.iload_n 2, 1) := by decide +kernel
theorem d_Wo_spentInAll_5 : decode c_Wo_spentInAll 5 = .ok (.aload_n 0, 1) := by decide +kernel
theorem d_Wo_spentInAll_6 : decode c_Wo_spentInAll 6 = .ok (.getfield 40, 3) := by decide +kernel
theorem d_Wo_spentInAll_9 : decode c_Wo_spentInAll 9 = .ok (.getfield 68, 3) := by decide +kernel
theorem d_Wo_spentInAll_12 : decode c_Wo_spentInAll 12 = .ok (.if_icmp .ge 18, 3) := by decide +kernel
theorem d_Wo_spentInAll_15 : decode c_Wo_spentInAll 15 = .ok (.iload_n 1, 1) := by decide +kernel
theorem d_Wo_spentInAll_16 : decode c_Wo_spentInAll 16 = .ok (.aload_n 0, 1) := by decide +kernel
theorem d_Wo_spentInAll_17 : decode c_Wo_spentInAll 17 = .ok (.getfield 37, 3) := by decide +kernel
theorem d_Wo_spentInAll_20 : decode c_Wo_spentInAll 20 = .ok (.iload_n 2, 1) := by decide +kernel
theorem d_Wo_spentInAll_21 : decode c_Wo_spentInAll 21 = .ok (.iaload, 1) := by decide +kernel
theorem d_Wo_spentInAll_22 : decode c_Wo_spentInAll 22 = .ok (.iadd, 1) := by decide +kernel
theorem d_Wo_spentInAll_23 : decode c_Wo_spentInAll 23 = .ok (.istore_n 1, 1) := by decide +kernel
theorem d_Wo_spentInAll_24 : decode c_Wo_spentInAll 24 = .ok (.iinc 2 1, 3) := by decide +kernel
theorem d_Wo_spentInAll_27 : decode c_Wo_spentInAll 27 = .ok (.goto (-23), 3) := by decide +kernel
theorem d_Wo_spentInAll_30 : decode c_Wo_spentInAll 30 = .ok (.iload_n 1, 1) := by decide +kernel
theorem d_Wo_spentInAll_31 : decode c_Wo_spentInAll 31 = .ok (.ireturn, 1) := by decide +kernel
theorem d_Wo_makeChoice_0 : decode c_Wo_makeChoice 0 = .ok (.iconst 0, 1) := by decide +kernel
theorem d_Wo_makeChoice_1 : decode c_Wo_makeChoice 1 = .ok (.istore_n 1, 1) := by decide +kernel
theorem d_Wo_makeChoice_2 : decode c_Wo_makeChoice 2 = .ok (.iconst 0, 1) := by decide +kernel
theorem d_Wo_makeChoice_3 : decode c_Wo_makeChoice 3 = .ok (.istore_n 2, 1) := by decide +kernel
theorem d_Wo_makeChoice_4 : decode c_Wo_makeChoice 4 = .ok (.iconst 0, 1) := by decide +kernel
theorem d_Wo_makeChoice_5 : decode c_Wo_makeChoice 5 = .ok (.istore_n 3, 1) := by decide +kernel
theorem d_Wo_makeChoice_6 : decode c_Wo_makeChoice 6 = .ok (.aload_n 0, 1) := by decide +kernel
theorem d_Wo_makeChoice_7 : decode c_Wo_makeChoice 7 = .ok (.invokevirtual 77, 3) := by decide +kernel
theorem d_Wo_makeChoice_10 : decode c_Wo_makeChoice 10 = .ok (.istore 4, 2) := by decide +kernel
theorem d_Wo_makeChoice_12 : decode c_Wo_makeChoice 12 = .ok (.iconst 1, 1) := by decide +kernel
theorem d_Wo_makeChoice_13 : decode c_Wo_makeChoice 13 = .ok (.istore 5, 2) := by decide +kernel
theorem d_Wo_makeChoice_15 : decode c_Wo_makeChoice 15 = .ok (.iload 5, 2) := by decide +kernel
theorem d_Wo_makeChoice_17 : decode c_Wo_makeChoice 17 = .ok (.iload 4, 2) := by decide +kernel
theorem d_Wo_makeChoice_19 : decode c_Wo_makeChoice 19 = .ok (.if_icmp .gt 87, 3) := by decide +kernel
theorem d_Wo_makeChoice_22 : decode c_Wo_makeChoice 22 = .ok (.aload_n 0, 1) := by decide +kernel
theorem d_Wo_makeChoice_23 : decode c_Wo_makeChoice 23 = .ok (.iload 5, 2) := by decide +kernel
theorem d_Wo_makeChoice_25 : decode c_Wo_makeChoice 25 = .ok (.invokevirtual 81, 3) := by decide +kernel
theorem d_Wo_makeChoice_28 : decode c_Wo_makeChoice 28 = .ok (.istore 6, 2) := by decide +kernel
theorem d_Wo_makeChoice_30 : decode c_Wo_makeChoice 30 = .ok (.iload 6, 2) := by decide +kernel
theorem d_Wo_makeChoice_32 : decode c_Wo_makeChoice 32 = .ok (.iload_n 2, 1) := by decide +kernel
theorem d_Wo_makeChoice_33 : decode c_Wo_makeChoice 33 = .ok (.if_icmp .lt 67, 3) := by decide +kernel
theorem d_Wo_makeChoice_36 : decode c_Wo_makeChoice 36 = .ok (.aload_n 0, 1) := by decide +kernel
theorem d_Wo_makeChoice_37 : decode c_Wo_makeChoice 37 = .ok (.iload 5, 2) := by decide +kernel
theorem d_Wo_makeChoice_39 : decode c_Wo_makeChoice 39 = .ok (.invokevirtual 85, 3) := by decide +kernel
theorem d_Wo_makeChoice_42 : decode c_Wo_makeChoice 42 = .ok (.ifCond .ne 6, 3) := by decide +kernel
theorem d_Wo_makeChoice_45 : decode c_Wo_makeChoice 45 = .ok (.goto 55, 3) := by decide +kernel
theorem d_Wo_makeChoice_48 : decode c_Wo_makeChoice 48 = .ok (.aload_n 0, 1) := by decide +kernel
theorem d_Wo_makeChoice_49 : decode c_Wo_makeChoice 49 = .ok (.iload 5, 2) := by decide +kernel
theorem d_Wo_makeChoice_51 : decode c_Wo_makeChoice 51 = .ok (.invokevirtual 89, 3) := by decide +kernel
theorem d_Wo_makeChoice_54 : decode c_Wo_makeChoice 54 = .ok (.aload_n 0, 1) := by decide +kernel
theorem d_Wo_makeChoice_55 : decode c_Wo_makeChoice 55 = .ok (.invokevirtual 93, 3) := by decide +kernel
theorem d_Wo_makeChoice_58 : decode c_Wo_makeChoice 58 = .ok (.istore 7, 2) := by decide +kernel
theorem d_Wo_makeChoice_60 : decode c_Wo_makeChoice 60 = .ok (.iload 6, 2) := by decide +kernel
theorem d_Wo_makeChoice_62 : decode c_Wo_makeChoice 62 = .ok (.iload_n 2, 1) := by decide +kernel
theorem d_Wo_makeChoice_63 : decode c_Wo_makeChoice 63 = .ok (.if_icmp .gt 9, 3) := by decide +kernel
theorem d_Wo_makeChoice_66 : decode c_Wo_makeChoice 66 = .ok (.iload 7, 2) := by decide +kernel
theorem d_Wo_makeChoice_68 : decode c_Wo_makeChoice 68 = .ok (.iload_n 3, 1) := by decide +kernel
theorem d_Wo_makeChoice_69 : decode c_Wo_makeChoice 69 = .ok (.if_icmp .ge 7, 3) := by decide +kernel
theorem d_Wo_makeChoice_72 : decode c_Wo_makeChoice 72 = .ok (.iconst 1, 1) := by decide +kernel
theorem d_Wo_makeChoice_73 : decode c_Wo_makeChoice 73 = .ok (.goto 4, 3) := by decide +kernel
theorem d_Wo_makeChoice_76 : decode c_Wo_makeChoice 76 = .ok (.iconst 0, 1) := by decide +kernel
theorem d_Wo_makeChoice_77 : decode c_Wo_makeChoice 77 = .ok (.istore 8, 2) := by decide +kernel
theorem d_Wo_makeChoice_79 : decode c_Wo_makeChoice 79 = .ok (.iload 8, 2) := by decide +kernel
theorem d_Wo_makeChoice_81 : decode c_Wo_makeChoice 81 = .ok (.ifCond .eq 19, 3) := by decide +kernel
theorem d_Wo_makeChoice_84 : decode c_Wo_makeChoice 84 = .ok (.aload_n 0, 1) := by decide +kernel
theorem d_Wo_makeChoice_85 : decode c_Wo_makeChoice 85 = .ok (.invokevirtual 96, 3) := by decide +kernel
theorem d_Wo_makeChoice_88 : decode c_Wo_makeChoice 88 = .ok (.ifCond .ne 12, 3) := by decide +kernel
theorem d_Wo_makeChoice_91 : decode c_Wo_makeChoice 91 = .ok (.iload 5, 2) := by decide +kernel
theorem d_Wo_makeChoice_93 : decode c_Wo_makeChoice 93 = .ok (.istore_n 1, 1) := by decide +kernel
theorem d_Wo_makeChoice_94 : decode c_Wo_makeChoice 94 = .ok (.iload 6, 2) := by decide +kernel
theorem d_Wo_makeChoice_96 : decode c_Wo_makeChoice 96 = .ok (.istore_n 2, 1) := by decide +kernel
theorem d_Wo_makeChoice_97 : decode c_Wo_makeChoice 97 = .ok (.iload 7, 2) := by decide +kernel
theorem d_Wo_makeChoice_99 : decode c_Wo_makeChoice 99 = .ok (.istore_n 3, 1) := by decide +kernel
theorem d_Wo_makeChoice_100 : decode c_Wo_makeChoice 100 = .ok (.iinc 5 1, 3) := by decide +kernel
theorem d_Wo_makeChoice_103 : decode c_Wo_makeChoice 103 = .ok (.goto (-88), 3) := by decide +kernel
theorem d_Wo_makeChoice_106 : decode c_Wo_makeChoice 106 = .ok (.aload_n 0, 1) := by decide +kernel
theorem d_Wo_makeChoice_107 : decode c_Wo_makeChoice 107 = .ok (.iload_n 1, 1) := by decide +kernel
theorem d_Wo_makeChoice_108 : decode c_Wo_makeChoice 108 = .ok (.putfield 99, 3) := by decide +kernel
theorem d_Wo_makeChoice_111 : decode c_Wo_makeChoice 111 = .ok (.return_, 1) := by decide +kernel
theorem d_Ye_init_0 : decode c_Ye_init 0 = .ok (.aload_n 0, 1) := by decide +kernel
theorem d_Ye_init_1 : decode c_Ye_init 1 = .ok (.invokespecial 1, 3) := by decide +kernel
theorem d_Ye_init_4 : decode c_Ye_init 4 = .ok (.aload_n 0, 1) := by decide +kernel
theorem d_Ye_init_5 : decode c_Ye_init 5 = .ok (.bipush 12, 2) := by decide +kernel
theorem d_Ye_init_7 : decode c_Ye_init 7 = .ok (.newarray .int, 2) := by decide +kernel
theorem d_Ye_init_9 : decode c_Ye_init 9 = .ok (.putfield 9, 3) := by decide +kernel
theorem d_Ye_init_12 : decode c_Ye_init 12 = .ok (.aload_n 0, 1) := by decide +kernel
theorem d_Ye_init_13 : decode c_Ye_init 13 = .ok (.bipush 12, 2) := by decide +kernel
theorem d_Ye_init_15 : decode c_Ye_init 15 = .ok (.newarray .int, 2) := by decide +kernel
theorem d_Ye_init_17 : decode c_Ye_init 17 = .ok (.putfield 13, 3) := by decide +kernel
theorem d_Ye_init_20 : decode c_Ye_init 20 = .ok (.aload_n 0, 1) := by decide +kernel
theorem d_Ye_init_21 : decode c_Ye_init 21 = .ok (.iload_n 1, 1) := by decide +kernel
theorem d_Ye_init_22 : decode c_Ye_init 22 = .ok (.putfield 16, 3) := by decide +kernel
theorem d_Ye_init_25 : decode c_Ye_init 25 = .ok (.aload_n 0, 1) := by decide +kernel
theorem d_Ye_init_26 : decode c_Ye_init 26 = .ok (.getfield 9, 3) := by decide +kernel
theorem d_Ye_init_29 : decode c_Ye_init 29 = .ok (.sipush 1000, 3) := by decide +kernel
theorem d_Ye_init_32 : decode c_Ye_init 32 = .ok (.invokestatic 20, 3) := by decide +kernel
theorem d_Ye_init_35 : decode c_Ye_init 35 = .ok (.return_, 1) := by decide +kernel
theorem d_Ye_has_0 : decode c_Ye_has 0 = .ok (.iload_n 1, 1) := by decide +kernel
theorem d_Ye_has_1 : decode c_Ye_has 1 = .ok (.ifCond .lt 15, 3) := by decide +kernel
theorem d_Ye_has_4 : decode c_Ye_has 4 = .ok (.iload_n 1, 1) := by decide +kernel
theorem d_Ye_has_5 : decode c_Ye_has 5 = .ok (.aload_n 0, 1) := by decide +kernel
theorem d_Ye_has_6 : decode c_Ye_has 6 = .ok (.getfield 16, 3) := by decide +kernel
theorem d_Ye_has_9 : decode c_Ye_has 9 = .ok (.if_icmp .ge 7, 3) := by decide +kernel
theorem d_Ye_has_12 : decode c_Ye_has 12 = .ok (.iconst 1, 1) := by decide +kernel
theorem d_Ye_has_13 : decode c_Ye_has 13 = .ok (.goto 4, 3) := by decide +kernel
theorem d_Ye_has_16 : decode c_Ye_has 16 = .ok (.iconst 0, 1) := by decide +kernel
theorem d_Ye_has_17 : decode c_Ye_has 17 = .ok (.ireturn, 1) := by decide +kernel
theorem d_Ye_costIn_0 : decode c_Ye_costIn 0 = .ok (.iload_n 2, 1) := by decide +kernel
theorem d_Ye_costIn_1 : decode c_Ye_costIn 1 = .ok (.i2l, 1) := by decide +kernel
theorem d_Ye_costIn_2 : decode c_Ye_costIn 2 = .ok (.aload_n 0, 1) := by decide +kernel
theorem d_Ye_costIn_3 : decode c_Ye_costIn 3 = .ok (.getfield 9, 3) := by decide +kernel
theorem d_Ye_costIn_6 : decode c_Ye_costIn 6 = .ok (.iload_n 1, 1) := by decide +kernel
theorem d_Ye_costIn_7 : decode c_Ye_costIn 7 = .ok (.iaload, 1) := by decide +kernel
theorem d_Ye_costIn_8 : decode c_Ye_costIn 8 = .ok (.i2l, 1) := by decide +kernel
theorem d_Ye_costIn_9 : decode c_Ye_costIn 9 = .ok (.lmul, 1) := by decide +kernel
theorem d_Ye_costIn_10 : decode c_Ye_costIn 10 = .ok (.ldc2_w 26, 3) := by decide +kernel
theorem d_Ye_costIn_13 : decode c_Ye_costIn 13 = .ok (.ldiv, 1) := by decide +kernel
theorem d_Ye_costIn_14 : decode c_Ye_costIn 14 = .ok (.l2i, 1) := by decide +kernel
theorem d_Ye_costIn_15 : decode c_Ye_costIn 15 = .ok (.ireturn, 1) := by decide +kernel
theorem d_Ma_maxI_0 : decode c_Ma_maxI 0 = .ok (.iload_n 0, 1) := by decide +kernel
theorem d_Ma_maxI_1 : decode c_Ma_maxI 1 = .ok (.iload_n 1, 1) := by decide +kernel
theorem d_Ma_maxI_2 : decode c_Ma_maxI 2 = .ok (.if_icmp .lt 7, 3) := by decide +kernel
theorem d_Ma_maxI_5 : decode c_Ma_maxI 5 = .ok (.iload_n 0, 1) := by decide +kernel
theorem d_Ma_maxI_6 : decode c_Ma_maxI 6 = .ok (.goto 4, 3) := by decide +kernel
theorem d_Ma_maxI_9 : decode c_Ma_maxI 9 = .ok (.iload_n 1, 1) := by decide +kernel
theorem d_Ma_maxI_10 : decode c_Ma_maxI 10 = .ok (.ireturn, 1) := by decide +kernel
theorem d_Ma_maxJ_0 : decode c_Ma_maxJ 0 = .ok (.lload_n 0, 1) := by decide +kernel
theorem d_Ma_maxJ_1 : decode c_Ma_maxJ 1 = .ok (.lload_n 2, 1) := by decide +kernel
theorem d_Ma_maxJ_2 : decode c_Ma_maxJ 2 = .ok (.lcmp, 1) := by decide +kernel
theorem d_Ma_maxJ_3 : decode c_Ma_maxJ 3 = .ok (.ifCond .lt 7, 3) := by decide +kernel
theorem d_Ma_maxJ_6 : decode c_Ma_maxJ 6 = .ok (.lload_n 0, 1) := by decide +kernel
theorem d_Ma_maxJ_7 : decode c_Ma_maxJ 7 = .ok (.goto 4, 3) := by decide +kernel
theorem d_Ma_maxJ_10 : decode c_Ma_maxJ 10 = .ok (.lload_n 2, 1) := by decide +kernel
theorem d_Ma_maxJ_11 : decode c_Ma_maxJ 11 = .ok (.lreturn, 1) := by decide +kernel
theorem d_Ma_minI_0 : decode c_Ma_minI 0 = .ok (.iload_n 0, 1) := by decide +kernel
theorem d_Ma_minI_1 : decode c_Ma_minI 1 = .ok (.iload_n 1, 1) := by decide +kernel
theorem d_Ma_minI_2 : decode c_Ma_minI 2 = .ok (.if_icmp .gt 7, 3) := by decide +kernel
theorem d_Ma_minI_5 : decode c_Ma_minI 5 = .ok (.iload_n 0, 1) := by decide +kernel
theorem d_Ma_minI_6 : decode c_Ma_minI 6 = .ok (.goto 4, 3) := by decide +kernel
theorem d_Ma_minI_9 : decode c_Ma_minI 9 = .ok (.iload_n 1, 1) := by decide +kernel
theorem d_Ma_minI_10 : decode c_Ma_minI 10 = .ok (.ireturn, 1) := by decide +kernel
theorem d_Ar_fillI_0 : decode c_Ar_fillI 0 = .ok (.iconst 0, 1) := by decide +kernel
theorem d_Ar_fillI_1 : decode c_Ar_fillI 1 = .ok (.istore_n 2, 1) := by decide +kernel
theorem d_Ar_fillI_2 : decode c_Ar_fillI 2 = .ok (.aload_n 0, 1) := by decide +kernel
theorem d_Ar_fillI_3 : decode c_Ar_fillI 3 = .ok (.arraylength, 1) := by decide +kernel
theorem d_Ar_fillI_4 : decode c_Ar_fillI 4 = .ok (.istore_n 3, 1) := by decide +kernel
theorem d_Ar_fillI_5 : decode c_Ar_fillI 5 = .ok (.iload_n 2, 1) := by decide +kernel
theorem d_Ar_fillI_6 : decode c_Ar_fillI 6 = .ok (.iload_n 3, 1) := by decide +kernel
theorem d_Ar_fillI_7 : decode c_Ar_fillI 7 = .ok (.if_icmp .ge 13, 3) := by decide +kernel
theorem d_Ar_fillI_10 : decode c_Ar_fillI 10 = .ok (.aload_n 0, 1) := by decide +kernel
theorem d_Ar_fillI_11 : decode c_Ar_fillI 11 = .ok (.iload_n 2, 1) := by decide +kernel
theorem d_Ar_fillI_12 : decode c_Ar_fillI 12 = .ok (.iload_n 1, 1) := by decide +kernel
theorem d_Ar_fillI_13 : decode c_Ar_fillI 13 = .ok (.iastore, 1) := by decide +kernel
theorem d_Ar_fillI_14 : decode c_Ar_fillI 14 = .ok (.iinc 2 1, 3) := by decide +kernel
theorem d_Ar_fillI_17 : decode c_Ar_fillI 17 = .ok (.goto (-12), 3) := by decide +kernel
theorem d_Ar_fillI_20 : decode c_Ar_fillI 20 = .ok (.return_, 1) := by decide +kernel
theorem d_Ar_fillJ_0 : decode c_Ar_fillJ 0 = .ok (.iconst 0, 1) := by decide +kernel
theorem d_Ar_fillJ_1 : decode c_Ar_fillJ 1 = .ok (.istore_n 3, 1) := by decide +kernel
theorem d_Ar_fillJ_2 : decode c_Ar_fillJ 2 = .ok (.aload_n 0, 1) := by decide +kernel
theorem d_Ar_fillJ_3 : decode c_Ar_fillJ 3 = .ok (.arraylength, 1) := by decide +kernel
theorem d_Ar_fillJ_4 : decode c_Ar_fillJ 4 = .ok (.istore 4, 2) := by decide +kernel
theorem d_Ar_fillJ_6 : decode c_Ar_fillJ 6 = .ok (.iload_n 3, 1) := by decide +kernel
theorem d_Ar_fillJ_7 : decode c_Ar_fillJ 7 = .ok (.iload 4, 2) := by decide +kernel
theorem d_Ar_fillJ_9 : decode c_Ar_fillJ 9 = .ok (.if_icmp .ge 13, 3) := by decide +kernel
theorem d_Ar_fillJ_12 : decode c_Ar_fillJ 12 = .ok (.aload_n 0, 1) := by decide +kernel
theorem d_Ar_fillJ_13 : decode c_Ar_fillJ 13 = .ok (.iload_n 3, 1) := by decide +kernel
theorem d_Ar_fillJ_14 : decode c_Ar_fillJ 14 = .ok (.lload_n 1, 1) := by decide +kernel
theorem d_Ar_fillJ_15 : decode c_Ar_fillJ 15 = .ok (.lastore, 1) := by decide +kernel
theorem d_Ar_fillJ_16 : decode c_Ar_fillJ 16 = .ok (.iinc 3 1, 3) := by decide +kernel
theorem d_Ar_fillJ_19 : decode c_Ar_fillJ 19 = .ok (.goto (-13), 3) := by decide +kernel
theorem d_Ar_fillJ_22 : decode c_Ar_fillJ 22 = .ok (.return_, 1) := by decide +kernel
end
section
/-! what each instruction decodes to, printed by wip/tools/names.py -/
theorem d_Mo_init_0 : decode c_Mo_init 0 = .ok (.aload_n 0, 1) := by decide +kernel
theorem d_Mo_init_1 : decode c_Mo_init 1 = .ok (.invokespecial 1, 3) := by decide +kernel
theorem d_Mo_init_4 : decode c_Mo_init 4 = .ok (.aload_n 0, 1) := by decide +kernel
theorem d_Mo_init_5 : decode c_Mo_init 5 = .ok (.bipush 12, 2) := by decide +kernel
theorem d_Mo_init_7 : decode c_Mo_init 7 = .ok (.newarray .int, 2) := by decide +kernel
theorem d_Mo_init_9 : decode c_Mo_init 9 = .ok (.putfield 7, 3) := by decide +kernel
theorem d_Mo_init_12 : decode c_Mo_init 12 = .ok (.aload_n 0, 1) := by decide +kernel
theorem d_Mo_init_13 : decode c_Mo_init 13 = .ok (.bipush 12, 2) := by decide +kernel
theorem d_Mo_init_15 : decode c_Mo_init 15 = .ok (.newarray .int, 2) := by decide +kernel
theorem d_Mo_init_17 : decode c_Mo_init 17 = .ok (.putfield 13, 3) := by decide +kernel
theorem d_Mo_init_20 : decode c_Mo_init 20 = .ok (.aload_n 0, 1) := by decide +kernel
theorem d_Mo_init_21 : decode c_Mo_init 21 = .ok (.bipush 12, 2) := by decide +kernel
theorem d_Mo_init_23 : decode c_Mo_init 23 = .ok (.newarray .int, 2) := by decide +kernel
theorem d_Mo_init_25 : decode c_Mo_init 25 = .ok (.putfield 16, 3) := by decide +kernel
theorem d_Mo_init_28 : decode c_Mo_init 28 = .ok (.aload_n 0, 1) := by decide +kernel
theorem d_Mo_init_29 : decode c_Mo_init 29 = .ok (.bipush 12, 2) := by decide +kernel
theorem d_Mo_init_31 : decode c_Mo_init 31 = .ok (.newarray .int, 2) := by decide +kernel
theorem d_Mo_init_33 : decode c_Mo_init 33 = .ok (.putfield 19, 3) := by decide +kernel
theorem d_Mo_init_36 : decode c_Mo_init 36 = .ok (.aload_n 0, 1) := by decide +kernel
theorem d_Mo_init_37 : decode c_Mo_init 37 = .ok (.sipush 192, 3) := by decide +kernel
theorem d_Mo_init_40 : decode c_Mo_init 40 = .ok (.newarray .int, 2) := by decide +kernel
theorem d_Mo_init_42 : decode c_Mo_init 42 = .ok (.putfield 22, 3) := by decide +kernel
theorem d_Mo_init_45 : decode c_Mo_init 45 = .ok (.aload_n 0, 1) := by decide +kernel
theorem d_Mo_init_46 : decode c_Mo_init 46 = .ok (.bipush 48, 2) := by decide +kernel
theorem d_Mo_init_48 : decode c_Mo_init 48 = .ok (.newarray .int, 2) := by decide +kernel
theorem d_Mo_init_50 : decode c_Mo_init 50 = .ok (.putfield 25, 3) := by decide +kernel
theorem d_Mo_init_53 : decode c_Mo_init 53 = .ok (.aload_n 0, 1) := by decide +kernel
theorem d_Mo_init_54 : decode c_Mo_init 54 = .ok (.bipush 10, 2) := by decide +kernel
theorem d_Mo_init_56 : decode c_Mo_init 56 = .ok (.newarray .int, 2) := by decide +kernel
theorem d_Mo_init_58 : decode c_Mo_init 58 = .ok (.putfield 28, 3) := by decide +kernel
theorem d_Mo_init_61 : decode c_Mo_init 61 = .ok (.aload_n 0, 1) := by decide +kernel
theorem d_Mo_init_62 : decode c_Mo_init 62 = .ok (.bipush 10, 2) := by decide +kernel
theorem d_Mo_init_64 : decode c_Mo_init 64 = .ok (.newarray .int, 2) := by decide +kernel
theorem d_Mo_init_66 : decode c_Mo_init 66 = .ok (.putfield 31, 3) := by decide +kernel
theorem d_Mo_init_69 : decode c_Mo_init 69 = .ok (.aload_n 0, 1) := by decide +kernel
theorem d_Mo_init_70 : decode c_Mo_init 70 = .ok (.bipush 10, 2) := by decide +kernel
theorem d_Mo_init_72 : decode c_Mo_init 72 = .ok (.newarray .int, 2) := by decide +kernel
theorem d_Mo_init_74 : decode c_Mo_init 74 = .ok (.putfield 34, 3) := by decide +kernel
theorem d_Mo_init_77 : decode c_Mo_init 77 = .ok (.aload_n 0, 1) := by decide +kernel
theorem d_Mo_init_78 : decode c_Mo_init 78 = .ok (.bipush 10, 2) := by decide +kernel
theorem d_Mo_init_80 : decode c_Mo_init 80 = .ok (.newarray .int, 2) := by decide +kernel
theorem d_Mo_init_82 : decode c_Mo_init 82 = .ok (.putfield 37, 3) := by decide +kernel
theorem d_Mo_init_85 : decode c_Mo_init 85 = .ok (.aload_n 0, 1) := by decide +kernel
theorem d_Mo_init_86 : decode c_Mo_init 86 = .ok (.bipush 10, 2) := by decide +kernel
theorem d_Mo_init_88 : decode c_Mo_init 88 = .ok (.newarray .int, 2) := by decide +kernel
theorem d_Mo_init_90 : decode c_Mo_init 90 = .ok (.putfield 40, 3) := by decide +kernel
theorem d_Mo_init_93 : decode c_Mo_init 93 = .ok (.aload_n 0, 1) := by decide +kernel
theorem d_Mo_init_94 : decode c_Mo_init 94 = .ok (.bipush 100, 2) := by decide +kernel
theorem d_Mo_init_96 : decode c_Mo_init 96 = .ok (.newarray .int, 2) := by decide +kernel
theorem d_Mo_init_98 : decode c_Mo_init 98 = .ok (.putfield 43, 3) := by decide +kernel
theorem d_Mo_init_101 : decode c_Mo_init 101 = .ok (.aload_n 0, 1) := by decide +kernel
theorem d_Mo_init_102 : decode c_Mo_init 102 = .ok (.bipush 100, 2) := by decide +kernel
theorem d_Mo_init_104 : decode c_Mo_init 104 = .ok (.newarray .boolean, 2) := by decide +kernel
theorem d_Mo_init_106 : decode c_Mo_init 106 = .ok (.putfield 46, 3) := by decide +kernel
theorem d_Mo_init_109 : decode c_Mo_init 109 = .ok (.aload_n 0, 1) := by decide +kernel
theorem d_Mo_init_110 : decode c_Mo_init 110 = .ok (.iconst 4, 1) := by decide +kernel
theorem d_Mo_init_111 : decode c_Mo_init 111 = .ok (.newarray .long, 2) := by decide +kernel
theorem d_Mo_init_113 : decode c_Mo_init 113 = .ok (.putfield 50, 3) := by decide +kernel
theorem d_Mo_init_116 : decode c_Mo_init 116 = .ok (.aload_n 0, 1) := by decide +kernel
theorem d_Mo_init_117 : decode c_Mo_init 117 = .ok (.iconst 4, 1) := by decide +kernel
theorem d_Mo_init_118 : decode c_Mo_init 118 = .ok (.newarray .long, 2) := by decide +kernel
theorem d_Mo_init_120 : decode c_Mo_init 120 = .ok (.putfield 54, 3) := by decide +kernel
theorem d_Mo_init_123 : decode c_Mo_init 123 = .ok (.aload_n 0, 1) := by decide +kernel
theorem d_Mo_init_124 : decode c_Mo_init 124 = .ok (.iload_n 1, 1) := by decide +kernel
theorem d_Mo_init_125 : decode c_Mo_init 125 = .ok (.iconst 1, 1) := by decide +kernel
theorem d_Mo_init_126 : decode c_Mo_init 126 = .ok (.if_icmp .ge 7, 3) := by decide +kernel
theorem d_Mo_init_129 : decode c_Mo_init 129 = .ok (.iconst 1, 1) := by decide +kernel
theorem d_Mo_init_130 : decode c_Mo_init 130 = .ok (.goto 15, 3) := by decide +kernel
theorem d_Mo_init_133 : decode c_Mo_init 133 = .ok (.iload_n 1, 1) := by decide +kernel
theorem d_Mo_init_134 : decode c_Mo_init 134 = .ok (.bipush 12, 2) := by decide +kernel
theorem d_Mo_init_136 : decode c_Mo_init 136 = .ok (.if_icmp .le 8, 3) := by decide +kernel
theorem d_Mo_init_139 : decode c_Mo_init 139 = .ok (.bipush 12, 2) := by decide +kernel
theorem d_Mo_init_141 : decode c_Mo_init 141 = .ok (.goto 4, 3) := by decide +kernel
theorem d_Mo_init_144 : decode c_Mo_init 144 = .ok (.iload_n 1, 1) := by decide +kernel
theorem d_Mo_init_145 : decode c_Mo_init 145 = .ok (.putfield 57, 3) := by decide +kernel
theorem d_Mo_init_148 : decode c_Mo_init 148 = .ok (.iconst 0, 1) := by decide +kernel
theorem d_Mo_init_149 : decode c_Mo_init 149 = .ok (.istore_n 2, 1) := by decide +kernel
theorem d_Mo_init_150 : decode c_Mo_init 150 = .ok (.iload_n 2, 1) := by decide +kernel
theorem d_Mo_init_151 : decode c_Mo_init 151 = .ok (.bipush 12, 2) := by decide +kernel
theorem d_Mo_init_153 : decode c_Mo_init 153 = .ok (.if_icmp .ge 18, 3) := by decide +kernel
theorem d_Mo_init_156 : decode c_Mo_init 156 = .ok (.aload_n 0, 1) := by decide +kernel
theorem d_Mo_init_157 : decode c_Mo_init 157 = .ok (.getfield 7, 3) := by decide +kernel
theorem d_Mo_init_160 : decode c_Mo_init 160 = .ok (.iload_n 2, 1) := by decide +kernel
theorem d_Mo_init_161 : decode c_Mo_init 161 = .ok (.sipush 1000, 3) := by decide +kernel
theorem d_Mo_init_164 : decode c_Mo_init 164 = .ok (.iastore, 1) := by decide +kernel
theorem d_Mo_init_165 : decode c_Mo_init 165 = .ok (.iinc 2 1, 3) := by decide +kernel
theorem d_Mo_init_168 : decode c_Mo_init 168 = .ok (.goto (-18), 3) := by decide +kernel
theorem d_Mo_init_171 : decode c_Mo_init 171 = .ok (.return_, 1) := by decide +kernel
theorem d_Mo_thrown_0 : decode c_Mo_thrown 0 = .ok (.aload_n 0, 1) := by decide +kernel
theorem d_Mo_thrown_1 : decode c_Mo_thrown 1 = .ok (.getfield 61, 3) := by decide +kernel
theorem d_Mo_thrown_4 : decode c_Mo_thrown 4 = .ok (.ireturn, 1) := by decide +kernel
theorem d_Mo_refuses_0 : decode c_Mo_refuses 0 = .ok (.aload_n 0, 1) := by decide +kernel
theorem d_Mo_refuses_1 : decode c_Mo_refuses 1 = .ok (.iload_n 1, 1) := by decide +kernel
theorem d_Mo_refuses_2 : decode c_Mo_refuses 2 = .ok (.putfield 61, 3) := by decide +kernel
theorem d_Mo_refuses_5 : decode c_Mo_refuses 5 = .ok (.iload_n 1, 1) := by decide +kernel
theorem d_Mo_refuses_6 : decode c_Mo_refuses 6 = .ok (.ifCond .le 7, 3) := by decide +kernel
theorem d_Mo_refuses_9 : decode c_Mo_refuses 9 = .ok (.iconst 1, 1) := by decide +kernel
theorem d_Mo_refuses_10 : decode c_Mo_refuses 10 = .ok (.goto 4, 3) := by decide +kernel
theorem d_Mo_refuses_13 : decode c_Mo_refuses 13 = .ok (.iconst 0, 1) := by decide +kernel
theorem d_Mo_refuses_14 : decode c_Mo_refuses 14 = .ok (.ireturn, 1) := by decide +kernel
theorem d_Mo_within_0 : decode c_Mo_within 0 = .ok (.lload_n 0, 1) := by decide +kernel
theorem d_Mo_within_1 : decode c_Mo_within 1 = .ok (.lload_n 2, 1) := by decide +kernel
theorem d_Mo_within_2 : decode c_Mo_within 2 = .ok (.lcmp, 1) := by decide +kernel
theorem d_Mo_within_3 : decode c_Mo_within 3 = .ok (.ifCond .lt 14, 3) := by decide +kernel
theorem d_Mo_within_6 : decode c_Mo_within 6 = .ok (.lload_n 0, 1) := by decide +kernel
theorem d_Mo_within_7 : decode c_Mo_within 7 = .ok (.lload 4, 2) := by decide +kernel
theorem d_Mo_within_9 : decode c_Mo_within 9 = .ok (.lcmp, 1) := by decide +kernel
theorem d_Mo_within_10 : decode c_Mo_within 10 = .ok (.ifCond .gt 7, 3) := by decide +kernel
theorem d_Mo_within_13 : decode c_Mo_within 13 = .ok (.iconst 1, 1) := by decide +kernel
theorem d_Mo_within_14 : decode c_Mo_within 14 = .ok (.goto 4, 3) := by decide +kernel
theorem d_Mo_within_17 : decode c_Mo_within 17 = .ok (.iconst 0, 1) := by decide +kernel
theorem d_Mo_within_18 : decode c_Mo_within 18 = .ok (.ireturn, 1) := by decide +kernel
theorem d_Mo_isYear_0 : decode c_Mo_isYear 0 = .ok (.iload_n 1, 1) := by decide +kernel
theorem d_Mo_isYear_1 : decode c_Mo_isYear 1 = .ok (.i2l, 1) := by decide +kernel
theorem d_Mo_isYear_2 : decode c_Mo_isYear 2 = .ok (.lconst 0, 1) := by decide +kernel
theorem d_Mo_isYear_3 : decode c_Mo_isYear 3 = .ok (.aload_n 0, 1) := by decide +kernel
theorem d_Mo_isYear_4 : decode c_Mo_isYear 4 = .ok (.getfield 57, 3) := by decide +kernel
theorem d_Mo_isYear_7 : decode c_Mo_isYear 7 = .ok (.i2l, 1) := by decide +kernel
theorem d_Mo_isYear_8 : decode c_Mo_isYear 8 = .ok (.lconst 1, 1) := by decide +kernel
theorem d_Mo_isYear_9 : decode c_Mo_isYear 9 = .ok (.lsub, 1) := by decide +kernel
theorem d_Mo_isYear_10 : decode c_Mo_isYear 10 = .ok (.invokestatic 64, 3) := by decide +kernel
theorem d_Mo_isYear_13 : decode c_Mo_isYear 13 = .ok (.ireturn, 1) := by decide +kernel
theorem d_Mo_isPart_0 : decode c_Mo_isPart 0 = .ok (.iload_n 1, 1) := by decide +kernel
theorem d_Mo_isPart_1 : decode c_Mo_isPart 1 = .ok (.i2l, 1) := by decide +kernel
theorem d_Mo_isPart_2 : decode c_Mo_isPart 2 = .ok (.lconst 0, 1) := by decide +kernel
theorem d_Mo_isPart_3 : decode c_Mo_isPart 3 = .ok (.aload_n 0, 1) := by decide +kernel
theorem d_Mo_isPart_4 : decode c_Mo_isPart 4 = .ok (.getfield 68, 3) := by decide +kernel
theorem d_Mo_isPart_7 : decode c_Mo_isPart 7 = .ok (.i2l, 1) := by decide +kernel
theorem d_Mo_isPart_8 : decode c_Mo_isPart 8 = .ok (.lconst 1, 1) := by decide +kernel
theorem d_Mo_isPart_9 : decode c_Mo_isPart 9 = .ok (.lsub, 1) := by decide +kernel
theorem d_Mo_isPart_10 : decode c_Mo_isPart 10 = .ok (.invokestatic 64, 3) := by decide +kernel
theorem d_Mo_isPart_13 : decode c_Mo_isPart 13 = .ok (.ireturn, 1) := by decide +kernel
theorem d_Mo_isState_0 : decode c_Mo_isState 0 = .ok (.aload_n 0, 1) := by decide +kernel
theorem d_Mo_isState_1 : decode c_Mo_isState 1 = .ok (.iload_n 1, 1) := by decide +kernel
theorem d_Mo_isState_2 : decode c_Mo_isState 2 = .ok (.invokevirtual 71, 3) := by decide +kernel
theorem d_Mo_isState_5 : decode c_Mo_isState 5 = .ok (.ifCond .eq 25, 3) := by decide +kernel
theorem d_Mo_isState_8 : decode c_Mo_isState 8 = .ok (.iload_n 2, 1) := by decide +kernel
theorem d_Mo_isState_9 : decode c_Mo_isState 9 = .ok (.i2l, 1) := by decide +kernel
theorem d_Mo_isState_10 : decode c_Mo_isState 10 = .ok (.lconst 0, 1) := by decide +kernel
theorem d_Mo_isState_11 : decode c_Mo_isState 11 = .ok (.aload_n 0, 1) := by decide +kernel
theorem d_Mo_isState_12 : decode c_Mo_isState 12 = .ok (.getfield 16, 3) := by decide +kernel
theorem d_Mo_isState_15 : decode c_Mo_isState 15 = .ok (.iload_n 1, 1) := by decide +kernel
theorem d_Mo_isState_16 : decode c_Mo_isState 16 = .ok (.iaload, 1) := by decide +kernel
theorem d_Mo_isState_17 : decode c_Mo_isState 17 = .ok (.i2l, 1) := by decide +kernel
theorem d_Mo_isState_18 : decode c_Mo_isState 18 = .ok (.lconst 1, 1) := by decide +kernel
theorem d_Mo_isState_19 : decode c_Mo_isState 19 = .ok (.lsub, 1) := by decide +kernel
theorem d_Mo_isState_20 : decode c_Mo_isState 20 = .ok (.invokestatic 64, 3) := by decide +kernel
theorem d_Mo_isState_23 : decode c_Mo_isState 23 = .ok (.ifCond .eq 7, 3) := by decide +kernel
theorem d_Mo_isState_26 : decode c_Mo_isState 26 = .ok (.iconst 1, 1) := by decide +kernel
theorem d_Mo_isState_27 : decode c_Mo_isState 27 = .ok (.goto 4, 3) := by decide +kernel
theorem d_Mo_isState_30 : decode c_Mo_isState 30 = .ok (.iconst 0, 1) := by decide +kernel
theorem d_Mo_isState_31 : decode c_Mo_isState 31 = .ok (.ireturn, 1) := by decide +kernel
theorem d_Mo_isWork_0 : decode c_Mo_isWork 0 = .ok (.iload_n 1, 1) := by decide +kernel
theorem d_Mo_isWork_1 : decode c_Mo_isWork 1 = .ok (.i2l, 1) := by decide +kernel
theorem d_Mo_isWork_2 : decode c_Mo_isWork 2 = .ok (.lconst 0, 1) := by decide +kernel
theorem d_Mo_isWork_3 : decode c_Mo_isWork 3 = .ok (.aload_n 0, 1) := by decide +kernel
theorem d_Mo_isWork_4 : decode c_Mo_isWork 4 = .ok (.getfield 75, 3) := by decide +kernel
theorem d_Mo_isWork_7 : decode c_Mo_isWork 7 = .ok (.i2l, 1) := by decide +kernel
theorem d_Mo_isWork_8 : decode c_Mo_isWork 8 = .ok (.lconst 1, 1) := by decide +kernel
theorem d_Mo_isWork_9 : decode c_Mo_isWork 9 = .ok (.lsub, 1) := by decide +kernel
theorem d_Mo_isWork_10 : decode c_Mo_isWork 10 = .ok (.invokestatic 64, 3) := by decide +kernel
theorem d_Mo_isWork_13 : decode c_Mo_isWork 13 = .ok (.ireturn, 1) := by decide +kernel
theorem d_Mo_index_0 : decode c_Mo_index 0 = .ok (.aload_n 0, 1) := by decide +kernel
theorem d_Mo_index_1 : decode c_Mo_index 1 = .ok (.aload_n 0, 1) := by decide +kernel
theorem d_Mo_index_2 : decode c_Mo_index 2 = .ok (.iload_n 1, 1) := by decide +kernel
theorem d_Mo_index_3 : decode c_Mo_index 3 = .ok (.invokevirtual 78, 3) := by decide +kernel
theorem d_Mo_index_6 : decode c_Mo_index 6 = .ok (.ifCond .eq 21, 3) := by decide +kernel
theorem d_Mo_index_9 : decode c_Mo_index 9 = .ok (.iload_n 2, 1) := by decide +kernel
theorem d_Mo_index_10 : decode c_Mo_index 10 = .ok (.i2l, 1) := by decide +kernel
theorem d_Mo_index_11 : decode c_Mo_index 11 = .ok (.ldc2_w 81, 3) := by decide +kernel
theorem d_Mo_index_14 : decode c_Mo_index 14 = .ok (.ldc2_w 83, 3) := by decide +kernel
theorem d_Mo_index_17 : decode c_Mo_index 17 = .ok (.invokestatic 64, 3) := by decide +kernel
theorem d_Mo_index_20 : decode c_Mo_index 20 = .ok (.ifCond .eq 7, 3) := by decide +kernel
theorem d_Mo_index_23 : decode c_Mo_index 23 = .ok (.iconst 0, 1) := by decide +kernel
theorem d_Mo_index_24 : decode c_Mo_index 24 = .ok (.goto 4, 3) := by decide +kernel
theorem d_Mo_index_27 : decode c_Mo_index 27 = .ok (.iconst 1, 1) := by decide +kernel
theorem d_Mo_index_28 : decode c_Mo_index 28 = .ok (.invokevirtual 85, 3) := by decide +kernel
theorem d_Mo_index_31 : decode c_Mo_index 31 = .ok (.ifCond .eq 5, 3) := by decide +kernel
theorem d_Mo_index_34 : decode c_Mo_index 34 = .ok (.iconst 0, 1) := by decide +kernel
theorem d_Mo_index_35 : decode c_Mo_index 35 = .ok (.ireturn, 1) := by decide +kernel
theorem d_Mo_index_36 : decode c_Mo_index 36 = .ok (.aload_n 0, 1) := by decide +kernel
theorem d_Mo_index_37 : decode c_Mo_index 37 = .ok (.getfield 7, 3) := by decide +kernel
theorem d_Mo_index_40 : decode c_Mo_index 40 = .ok (.iload_n 1, 1) := by decide +kernel
theorem d_Mo_index_41 : decode c_Mo_index 41 = .ok (.iaload, 1) := by decide +kernel
theorem d_Mo_index_42 : decode c_Mo_index 42 = .ok (.istore_n 3, 1) := by decide +kernel
theorem d_Mo_index_43 : decode c_Mo_index 43 = .ok (.aload_n 0, 1) := by decide +kernel
theorem d_Mo_index_44 : decode c_Mo_index 44 = .ok (.getfield 7, 3) := by decide +kernel
theorem d_Mo_index_47 : decode c_Mo_index 47 = .ok (.iload_n 1, 1) := by decide +kernel
theorem d_Mo_index_48 : decode c_Mo_index 48 = .ok (.iload_n 2, 1) := by decide +kernel
theorem d_Mo_index_49 : decode c_Mo_index 49 = .ok (.iastore, 1) := by decide +kernel
theorem d_Mo_index_50 : decode c_Mo_index 50 = .ok (.iload_n 3, 1) := by decide +kernel
theorem d_Mo_index_51 : decode c_Mo_index 51 = .ok (.ireturn, 1) := by decide +kernel
theorem d_Mo_budget_0 : decode c_Mo_budget 0 = .ok (.aload_n 0, 1) := by decide +kernel
theorem d_Mo_budget_1 : decode c_Mo_budget 1 = .ok (.aload_n 0, 1) := by decide +kernel
theorem d_Mo_budget_2 : decode c_Mo_budget 2 = .ok (.iload_n 1, 1) := by decide +kernel
theorem d_Mo_budget_3 : decode c_Mo_budget 3 = .ok (.invokevirtual 78, 3) := by decide +kernel
theorem d_Mo_budget_6 : decode c_Mo_budget 6 = .ok (.ifCond .eq 19, 3) := by decide +kernel
theorem d_Mo_budget_9 : decode c_Mo_budget 9 = .ok (.iload_n 2, 1) := by decide +kernel
theorem d_Mo_budget_10 : decode c_Mo_budget 10 = .ok (.i2l, 1) := by decide +kernel
theorem d_Mo_budget_11 : decode c_Mo_budget 11 = .ok (.lconst 0, 1) := by decide +kernel
theorem d_Mo_budget_12 : decode c_Mo_budget 12 = .ok (.ldc2_w 88, 3) := by decide +kernel
theorem d_Mo_budget_15 : decode c_Mo_budget 15 = .ok (.invokestatic 64, 3) := by decide +kernel
theorem d_Mo_budget_18 : decode c_Mo_budget 18 = .ok (.ifCond .eq 7, 3) := by decide +kernel
theorem d_Mo_budget_21 : decode c_Mo_budget 21 = .ok (.iconst 0, 1) := by decide +kernel
theorem d_Mo_budget_22 : decode c_Mo_budget 22 = .ok (.goto 4, 3) := by decide +kernel
theorem d_Mo_budget_25 : decode c_Mo_budget 25 = .ok (.iconst 1, 1) := by decide +kernel
theorem d_Mo_budget_26 : decode c_Mo_budget 26 = .ok (.invokevirtual 85, 3) := by decide +kernel
theorem d_Mo_budget_29 : decode c_Mo_budget 29 = .ok (.ifCond .eq 5, 3) := by decide +kernel
theorem d_Mo_budget_32 : decode c_Mo_budget 32 = .ok (.iconst 0, 1) := by decide +kernel
theorem d_Mo_budget_33 : decode c_Mo_budget 33 = .ok (.ireturn, 1) := by decide +kernel
theorem d_Mo_budget_34 : decode c_Mo_budget 34 = .ok (.aload_n 0, 1) := by decide +kernel
theorem d_Mo_budget_35 : decode c_Mo_budget 35 = .ok (.getfield 13, 3) := by decide +kernel
theorem d_Mo_budget_38 : decode c_Mo_budget 38 = .ok (.iload_n 1, 1) := by decide +kernel
theorem d_Mo_budget_39 : decode c_Mo_budget 39 = .ok (.iaload, 1) := by decide +kernel
theorem d_Mo_budget_40 : decode c_Mo_budget 40 = .ok (.istore_n 3, 1) := by decide +kernel
theorem d_Mo_budget_41 : decode c_Mo_budget 41 = .ok (.aload_n 0, 1) := by decide +kernel
theorem d_Mo_budget_42 : decode c_Mo_budget 42 = .ok (.getfield 13, 3) := by decide +kernel
theorem d_Mo_budget_45 : decode c_Mo_budget 45 = .ok (.iload_n 1, 1) := by decide +kernel
theorem d_Mo_budget_46 : decode c_Mo_budget 46 = .ok (.iload_n 2, 1) := by decide +kernel
theorem d_Mo_budget_47 : decode c_Mo_budget 47 = .ok (.iastore, 1) := by decide +kernel
theorem d_Mo_budget_48 : decode c_Mo_budget 48 = .ok (.iload_n 3, 1) := by decide +kernel
theorem d_Mo_budget_49 : decode c_Mo_budget 49 = .ok (.ireturn, 1) := by decide +kernel
theorem d_Mo_part_0 : decode c_Mo_part 0 = .ok (.iload_n 1, 1) := by decide +kernel
theorem d_Mo_part_1 : decode c_Mo_part 1 = .ok (.i2l, 1) := by decide +kernel
theorem d_Mo_part_2 : decode c_Mo_part 2 = .ok (.ldc2_w 90, 3) := by decide +kernel
theorem d_Mo_part_5 : decode c_Mo_part 5 = .ok (.ldc2_w 92, 3) := by decide +kernel
theorem d_Mo_part_8 : decode c_Mo_part 8 = .ok (.invokestatic 64, 3) := by decide +kernel
theorem d_Mo_part_11 : decode c_Mo_part 11 = .ok (.ifCond .eq 20, 3) := by decide +kernel
theorem d_Mo_part_14 : decode c_Mo_part 14 = .ok (.iload_n 2, 1) := by decide +kernel
theorem d_Mo_part_15 : decode c_Mo_part 15 = .ok (.i2l, 1) := by decide +kernel
theorem d_Mo_part_16 : decode c_Mo_part 16 = .ok (.lconst 0, 1) := by decide +kernel
theorem d_Mo_part_17 : decode c_Mo_part 17 = .ok (.iload_n 1, 1) := by decide +kernel
theorem d_Mo_part_18 : decode c_Mo_part 18 = .ok (.i2l, 1) := by decide +kernel
theorem d_Mo_part_19 : decode c_Mo_part 19 = .ok (.lconst 1, 1) := by decide +kernel
theorem d_Mo_part_20 : decode c_Mo_part 20 = .ok (.lsub, 1) := by decide +kernel
theorem d_Mo_part_21 : decode c_Mo_part 21 = .ok (.invokestatic 64, 3) := by decide +kernel
theorem d_Mo_part_24 : decode c_Mo_part 24 = .ok (.ifCond .eq 7, 3) := by decide +kernel
theorem d_Mo_part_27 : decode c_Mo_part 27 = .ok (.iconst 1, 1) := by decide +kernel
theorem d_Mo_part_28 : decode c_Mo_part 28 = .ok (.goto 4, 3) := by decide +kernel
theorem d_Mo_part_31 : decode c_Mo_part 31 = .ok (.iconst 0, 1) := by decide +kernel
theorem d_Mo_part_32 : decode c_Mo_part 32 = .ok (.istore_n 3, 1) := by decide +kernel
theorem d_Mo_part_33 : decode c_Mo_part 33 = .ok (.aload_n 0, 1) := by decide +kernel
theorem d_Mo_part_34 : decode c_Mo_part 34 = .ok (.iload_n 3, 1) := by decide +kernel
theorem d_Mo_part_35 : decode c_Mo_part 35 = .ok (.ifCond .ne 7, 3) := by decide +kernel
theorem d_Mo_part_38 : decode c_Mo_part 38 = .ok (.iconst 1, 1) := by decide +kernel
theorem d_Mo_part_39 : decode c_Mo_part 39 = .ok (.goto 17, 3) := by decide +kernel
theorem d_Mo_part_42 : decode c_Mo_part 42 = .ok (.aload_n 0, 1) := by decide +kernel
theorem d_Mo_part_43 : decode c_Mo_part 43 = .ok (.getfield 68, 3) := by decide +kernel
theorem d_Mo_part_46 : decode c_Mo_part 46 = .ok (.bipush 12, 2) := by decide +kernel
theorem d_Mo_part_48 : decode c_Mo_part 48 = .ok (.if_icmp .ne 7, 3) := by decide +kernel
theorem d_Mo_part_51 : decode c_Mo_part 51 = .ok (.iconst 2, 1) := by decide +kernel
theorem d_Mo_part_52 : decode c_Mo_part 52 = .ok (.goto 4, 3) := by decide +kernel
theorem d_Mo_part_55 : decode c_Mo_part 55 = .ok (.iconst 0, 1) := by decide +kernel
theorem d_Mo_part_56 : decode c_Mo_part 56 = .ok (.invokevirtual 85, 3) := by decide +kernel
theorem d_Mo_part_59 : decode c_Mo_part 59 = .ok (.ifCond .eq 5, 3) := by decide +kernel
theorem d_Mo_part_62 : decode c_Mo_part 62 = .ok (.iconst 0, 1) := by decide +kernel
theorem d_Mo_part_63 : decode c_Mo_part 63 = .ok (.ireturn, 1) := by decide +kernel
theorem d_Mo_part_64 : decode c_Mo_part 64 = .ok (.aload_n 0, 1) := by decide +kernel
theorem d_Mo_part_65 : decode c_Mo_part 65 = .ok (.getfield 16, 3) := by decide +kernel
theorem d_Mo_part_68 : decode c_Mo_part 68 = .ok (.aload_n 0, 1) := by decide +kernel
theorem d_Mo_part_69 : decode c_Mo_part 69 = .ok (.getfield 68, 3) := by decide +kernel
theorem d_Mo_part_72 : decode c_Mo_part 72 = .ok (.iload_n 1, 1) := by decide +kernel
theorem d_Mo_part_73 : decode c_Mo_part 73 = .ok (.iastore, 1) := by decide +kernel
theorem d_Mo_part_74 : decode c_Mo_part 74 = .ok (.aload_n 0, 1) := by decide +kernel
theorem d_Mo_part_75 : decode c_Mo_part 75 = .ok (.getfield 19, 3) := by decide +kernel
theorem d_Mo_part_78 : decode c_Mo_part 78 = .ok (.aload_n 0, 1) := by decide +kernel
theorem d_Mo_part_79 : decode c_Mo_part 79 = .ok (.getfield 68, 3) := by decide +kernel
theorem d_Mo_part_82 : decode c_Mo_part 82 = .ok (.iload_n 2, 1) := by decide +kernel
theorem d_Mo_part_83 : decode c_Mo_part 83 = .ok (.iastore, 1) := by decide +kernel
theorem d_Mo_part_84 : decode c_Mo_part 84 = .ok (.aload_n 0, 1) := by decide +kernel
theorem d_Mo_part_85 : decode c_Mo_part 85 = .ok (.dup, 1) := by decide +kernel
theorem d_Mo_part_86 : decode c_Mo_part 86 = .ok (.getfield 68, 3) := by decide +kernel
theorem d_Mo_part_89 : decode c_Mo_part 89 = .ok (.iconst 1, 1) := by decide +kernel
theorem d_Mo_part_90 : decode c_Mo_part 90 = .ok (.iadd, 1) := by decide +kernel
theorem d_Mo_part_91 : decode c_Mo_part 91 = .ok (.putfield 68, 3) := by decide +kernel
theorem d_Mo_part_94 : decode c_Mo_part 94 = .ok (.aload_n 0, 1) := by decide +kernel
theorem d_Mo_part_95 : decode c_Mo_part 95 = .ok (.getfield 68, 3) := by decide +kernel
theorem d_Mo_part_98 : decode c_Mo_part 98 = .ok (.iconst 1, 1) := by decide +kernel
theorem d_Mo_part_99 : decode c_Mo_part 99 = .ok (.isub, 1) := by decide +kernel
theorem d_Mo_part_100 : decode c_Mo_part 100 = .ok (.ireturn, 1) := by decide +kernel
theorem d_Mo_leaving_0 : decode c_Mo_leaving 0 = .ok (.iconst 0, 1) := by decide +kernel
theorem d_Mo_leaving_1 : decode c_Mo_leaving 1 = .ok (.istore_n 3, 1) := by decide +kernel
theorem d_Mo_leaving_2 : decode c_Mo_leaving 2 = .ok (.iconst 0, 1) := by decide +kernel
theorem d_Mo_leaving_3 : decode c_Mo_leaving 3 = .ok (.istore 4, 2) := by decide +kernel
theorem d_Mo_leaving_5 : decode c_Mo_leaving 5 = .ok (.iload 4, 2) := by decide +kernel
theorem d_Mo_leaving_7 : decode c_Mo_leaving 7 = .ok (.iconst 4, 1) := by decide +kernel
theorem d_Mo_leaving_8 : decode c_Mo_leaving 8 = .ok (.if_icmp .ge 28, 3) := by decide +kernel
theorem d_Mo_leaving_11 : decode c_Mo_leaving 11 = .ok (.iload_n 3, 1) := by decide +kernel
theorem d_Mo_leaving_12 : decode c_Mo_leaving 12 = .ok (.aload_n 0, 1) := by decide +kernel
theorem d_Mo_leaving_13 : decode c_Mo_leaving 13 = .ok (.getfield 22, 3) := by decide +kernel
theorem d_Mo_leaving_16 : decode c_Mo_leaving 16 = .ok (.bipush 16, 2) := by decide +kernel
theorem d_Mo_leaving_18 : decode c_Mo_leaving 18 = .ok (.iload_n 1, 1) := by decide +kernel
theorem d_Mo_leaving_19 : decode c_Mo_leaving 19 = .ok (.imul, 1) := by decide +kernel
theorem d_Mo_leaving_20 : decode c_Mo_leaving 20 = .ok (.iconst 4, 1) := by decide +kernel
theorem d_Mo_leaving_21 : decode c_Mo_leaving 21 = .ok (.iload_n 2, 1) := by decide +kernel
theorem d_Mo_leaving_22 : decode c_Mo_leaving 22 = .ok (.imul, 1) := by decide +kernel
theorem d_Mo_leaving_23 : decode c_Mo_leaving 23 = .ok (.iadd, 1) := by decide +kernel
theorem d_Mo_leaving_24 : decode c_Mo_leaving 24 = .ok (.iload 4, 2) := by decide +kernel
theorem d_Mo_leaving_26 : decode c_Mo_leaving 26 = .ok (.iadd, 1) := by decide +kernel
theorem d_Mo_leaving_27 : decode c_Mo_leaving 27 = .ok (.iaload, 1) := by decide +kernel
theorem d_Mo_leaving_28 : decode c_Mo_leaving 28 = .ok (.iadd, 1) := by decide +kernel
theorem d_Mo_leaving_29 : decode c_Mo_leaving 29 = .ok (.istore_n 3, 1) := by decide +kernel
theorem d_Mo_leaving_30 : decode c_Mo_leaving 30 = .ok (.iinc 4 1, 3) := by decide +kernel
theorem d_Mo_leaving_33 : decode c_Mo_leaving 33 = .ok (.goto (-28), 3) := by decide +kernel
theorem d_Mo_leaving_36 : decode c_Mo_leaving 36 = .ok (.iload_n 3, 1) := by decide +kernel
theorem d_Mo_leaving_37 : decode c_Mo_leaving 37 = .ok (.ireturn, 1) := by decide +kernel
theorem d_Mo_moves_0 : decode c_Mo_moves 0 = .ok (.aload_n 0, 1) := by decide +kernel
theorem d_Mo_moves_1 : decode c_Mo_moves 1 = .ok (.iload_n 1, 1) := by decide +kernel
theorem d_Mo_moves_2 : decode c_Mo_moves 2 = .ok (.iload_n 2, 1) := by decide +kernel
theorem d_Mo_moves_3 : decode c_Mo_moves 3 = .ok (.invokevirtual 94, 3) := by decide +kernel
theorem d_Mo_moves_6 : decode c_Mo_moves 6 = .ok (.ifCond .eq 34, 3) := by decide +kernel
theorem d_Mo_moves_9 : decode c_Mo_moves 9 = .ok (.aload_n 0, 1) := by decide +kernel
theorem d_Mo_moves_10 : decode c_Mo_moves 10 = .ok (.iload_n 1, 1) := by decide +kernel
theorem d_Mo_moves_11 : decode c_Mo_moves 11 = .ok (.iload_n 3, 1) := by decide +kernel
theorem d_Mo_moves_12 : decode c_Mo_moves 12 = .ok (.invokevirtual 94, 3) := by decide +kernel
theorem d_Mo_moves_15 : decode c_Mo_moves 15 = .ok (.ifCond .eq 25, 3) := by decide +kernel
theorem d_Mo_moves_18 : decode c_Mo_moves 18 = .ok (.iload_n 2, 1) := by decide +kernel
theorem d_Mo_moves_19 : decode c_Mo_moves 19 = .ok (.iload_n 3, 1) := by decide +kernel
theorem d_Mo_moves_20 : decode c_Mo_moves 20 = .ok (.if_icmp .eq 20, 3) := by decide +kernel
theorem d_Mo_moves_23 : decode c_Mo_moves 23 = .ok (.iload 4, 2) := by decide +kernel
theorem d_Mo_moves_25 : decode c_Mo_moves 25 = .ok (.i2l, 1) := by decide +kernel
theorem d_Mo_moves_26 : decode c_Mo_moves 26 = .ok (.lconst 0, 1) := by decide +kernel
theorem d_Mo_moves_27 : decode c_Mo_moves 27 = .ok (.ldc2_w 98, 3) := by decide +kernel
theorem d_Mo_moves_30 : decode c_Mo_moves 30 = .ok (.invokestatic 64, 3) := by decide +kernel
theorem d_Mo_moves_33 : decode c_Mo_moves 33 = .ok (.ifCond .eq 7, 3) := by decide +kernel
theorem d_Mo_moves_36 : decode c_Mo_moves 36 = .ok (.iconst 1, 1) := by decide +kernel
theorem d_Mo_moves_37 : decode c_Mo_moves 37 = .ok (.goto 4, 3) := by decide +kernel
theorem d_Mo_moves_40 : decode c_Mo_moves 40 = .ok (.iconst 0, 1) := by decide +kernel
theorem d_Mo_moves_41 : decode c_Mo_moves 41 = .ok (.istore 5, 2) := by decide +kernel
theorem d_Mo_moves_43 : decode c_Mo_moves 43 = .ok (.iload 5, 2) := by decide +kernel
theorem d_Mo_moves_45 : decode c_Mo_moves 45 = .ok (.ifCond .eq 21, 3) := by decide +kernel
theorem d_Mo_moves_48 : decode c_Mo_moves 48 = .ok (.aload_n 0, 1) := by decide +kernel
theorem d_Mo_moves_49 : decode c_Mo_moves 49 = .ok (.getfield 22, 3) := by decide +kernel
theorem d_Mo_moves_52 : decode c_Mo_moves 52 = .ok (.bipush 16, 2) := by decide +kernel
theorem d_Mo_moves_54 : decode c_Mo_moves 54 = .ok (.iload_n 1, 1) := by decide +kernel
theorem d_Mo_moves_55 : decode c_Mo_moves 55 = .ok (.imul, 1) := by decide +kernel
theorem d_Mo_moves_56 : decode c_Mo_moves 56 = .ok (.iconst 4, 1) := by decide +kernel
theorem d_Mo_moves_57 : decode c_Mo_moves 57 = .ok (.iload_n 2, 1) := by decide +kernel
theorem d_Mo_moves_58 : decode c_Mo_moves 58 = .ok (.imul, 1) := by decide +kernel
theorem d_Mo_moves_59 : decode c_Mo_moves 59 = .ok (.iadd, 1) := by decide +kernel
theorem d_Mo_moves_60 : decode c_Mo_moves 60 = .ok (.iload_n 3, 1) := by decide +kernel
theorem d_Mo_moves_61 : decode c_Mo_moves 61 = .ok (.iadd, 1) := by decide +kernel
theorem d_Mo_moves_62 : decode c_Mo_moves 62 = .ok (.iaload, 1) := by decide +kernel
theorem d_Mo_moves_63 : decode c_Mo_moves 63 = .ok (.goto 4, 3) := by decide +kernel
theorem d_Mo_moves_66 : decode c_Mo_moves 66 = .ok (.iconst 0, 1) := by decide +kernel
theorem d_Mo_moves_67 : decode c_Mo_moves 67 = .ok (.istore 6, 2) := by decide +kernel
theorem d_Mo_moves_69 : decode c_Mo_moves 69 = .ok (.aload_n 0, 1) := by decide +kernel
theorem d_Mo_moves_70 : decode c_Mo_moves 70 = .ok (.iload 5, 2) := by decide +kernel
theorem d_Mo_moves_72 : decode c_Mo_moves 72 = .ok (.ifCond .eq 20, 3) := by decide +kernel
theorem d_Mo_moves_75 : decode c_Mo_moves 75 = .ok (.aload_n 0, 1) := by decide +kernel
theorem d_Mo_moves_76 : decode c_Mo_moves 76 = .ok (.iload_n 1, 1) := by decide +kernel
theorem d_Mo_moves_77 : decode c_Mo_moves 77 = .ok (.iload_n 2, 1) := by decide +kernel
theorem d_Mo_moves_78 : decode c_Mo_moves 78 = .ok (.invokevirtual 100, 3) := by decide +kernel
theorem d_Mo_moves_81 : decode c_Mo_moves 81 = .ok (.iload 6, 2) := by decide +kernel
theorem d_Mo_moves_83 : decode c_Mo_moves 83 = .ok (.isub, 1) := by decide +kernel
theorem d_Mo_moves_84 : decode c_Mo_moves 84 = .ok (.iload 4, 2) := by decide +kernel
theorem d_Mo_moves_86 : decode c_Mo_moves 86 = .ok (.iadd, 1) := by decide +kernel
theorem d_Mo_moves_87 : decode c_Mo_moves 87 = .ok (.bipush 16, 2) := by decide +kernel
theorem d_Mo_moves_89 : decode c_Mo_moves 89 = .ok (.if_icmp .le 7, 3) := by decide +kernel
theorem d_Mo_moves_92 : decode c_Mo_moves 92 = .ok (.iconst 1, 1) := by decide +kernel
theorem d_Mo_moves_93 : decode c_Mo_moves 93 = .ok (.goto 4, 3) := by decide +kernel
theorem d_Mo_moves_96 : decode c_Mo_moves 96 = .ok (.iconst 0, 1) := by decide +kernel
theorem d_Mo_moves_97 : decode c_Mo_moves 97 = .ok (.invokevirtual 85, 3) := by decide +kernel
theorem d_Mo_moves_100 : decode c_Mo_moves 100 = .ok (.ifCond .eq 5, 3) := by decide +kernel
theorem d_Mo_moves_103 : decode c_Mo_moves 103 = .ok (.iconst 0, 1) := by decide +kernel
theorem d_Mo_moves_104 : decode c_Mo_moves 104 = .ok (.ireturn, 1) := by decide +kernel
theorem d_Mo_moves_105 : decode c_Mo_moves 105 = .ok (.aload_n 0, 1) := by decide +kernel
theorem d_Mo_moves_106 : decode c_Mo_moves 106 = .ok (.getfield 22, 3) := by decide +kernel
theorem d_Mo_moves_109 : decode c_Mo_moves 109 = .ok (.bipush 16, 2) := by decide +kernel
theorem d_Mo_moves_111 : decode c_Mo_moves 111 = .ok (.iload_n 1, 1) := by decide +kernel
theorem d_Mo_moves_112 : decode c_Mo_moves 112 = .ok (.imul, 1) := by decide +kernel
theorem d_Mo_moves_113 : decode c_Mo_moves 113 = .ok (.iconst 4, 1) := by decide +kernel
theorem d_Mo_moves_114 : decode c_Mo_moves 114 = .ok (.iload_n 2, 1) := by decide +kernel
theorem d_Mo_moves_115 : decode c_Mo_moves 115 = .ok (.imul, 1) := by decide +kernel
theorem d_Mo_moves_116 : decode c_Mo_moves 116 = .ok (.iadd, 1) := by decide +kernel
theorem d_Mo_moves_117 : decode c_Mo_moves 117 = .ok (.iload_n 3, 1) := by decide +kernel
theorem d_Mo_moves_118 : decode c_Mo_moves 118 = .ok (.iadd, 1) := by decide +kernel
theorem d_Mo_moves_119 : decode c_Mo_moves 119 = .ok (.iload 4, 2) := by decide +kernel
theorem d_Mo_moves_121 : decode c_Mo_moves 121 = .ok (.iastore, 1) := by decide +kernel
theorem d_Mo_moves_122 : decode c_Mo_moves 122 = .ok (.iload 6, 2) := by decide +kernel
theorem d_Mo_moves_124 : decode c_Mo_moves 124 = .ok (.ireturn, 1) := by decide +kernel
theorem d_Mo_care_0 : decode c_Mo_care 0 = .ok (.aload_n 0, 1) := by decide +kernel
theorem d_Mo_care_1 : decode c_Mo_care 1 = .ok (.aload_n 0, 1) := by decide +kernel
theorem d_Mo_care_2 : decode c_Mo_care 2 = .ok (.iload_n 1, 1) := by decide +kernel
theorem d_Mo_care_3 : decode c_Mo_care 3 = .ok (.iload_n 2, 1) := by decide +kernel
theorem d_Mo_care_4 : decode c_Mo_care 4 = .ok (.invokevirtual 94, 3) := by decide +kernel
theorem d_Mo_care_7 : decode c_Mo_care 7 = .ok (.ifCond .eq 19, 3) := by decide +kernel
theorem d_Mo_care_10 : decode c_Mo_care 10 = .ok (.iload_n 3, 1) := by decide +kernel
theorem d_Mo_care_11 : decode c_Mo_care 11 = .ok (.i2l, 1) := by decide +kernel
theorem d_Mo_care_12 : decode c_Mo_care 12 = .ok (.lconst 0, 1) := by decide +kernel
theorem d_Mo_care_13 : decode c_Mo_care 13 = .ok (.ldc2_w 104, 3) := by decide +kernel
theorem d_Mo_care_16 : decode c_Mo_care 16 = .ok (.invokestatic 64, 3) := by decide +kernel
theorem d_Mo_care_19 : decode c_Mo_care 19 = .ok (.ifCond .eq 7, 3) := by decide +kernel
theorem d_Mo_care_22 : decode c_Mo_care 22 = .ok (.iconst 0, 1) := by decide +kernel
theorem d_Mo_care_23 : decode c_Mo_care 23 = .ok (.goto 4, 3) := by decide +kernel
theorem d_Mo_care_26 : decode c_Mo_care 26 = .ok (.iconst 1, 1) := by decide +kernel
theorem d_Mo_care_27 : decode c_Mo_care 27 = .ok (.invokevirtual 85, 3) := by decide +kernel
theorem d_Mo_care_30 : decode c_Mo_care 30 = .ok (.ifCond .eq 5, 3) := by decide +kernel
theorem d_Mo_care_33 : decode c_Mo_care 33 = .ok (.iconst 0, 1) := by decide +kernel
theorem d_Mo_care_34 : decode c_Mo_care 34 = .ok (.ireturn, 1) := by decide +kernel
theorem d_Mo_care_35 : decode c_Mo_care 35 = .ok (.aload_n 0, 1) := by decide +kernel
theorem d_Mo_care_36 : decode c_Mo_care 36 = .ok (.getfield 25, 3) := by decide +kernel
theorem d_Mo_care_39 : decode c_Mo_care 39 = .ok (.iconst 4, 1) := by decide +kernel
theorem d_Mo_care_40 : decode c_Mo_care 40 = .ok (.iload_n 1, 1) := by decide +kernel
theorem d_Mo_care_41 : decode c_Mo_care 41 = .ok (.imul, 1) := by decide +kernel
theorem d_Mo_care_42 : decode c_Mo_care 42 = .ok (.iload_n 2, 1) := by decide +kernel
theorem d_Mo_care_43 : decode c_Mo_care 43 = .ok (.iadd, 1) := by decide +kernel
theorem d_Mo_care_44 : decode c_Mo_care 44 = .ok (.iaload, 1) := by decide +kernel
theorem d_Mo_care_45 : decode c_Mo_care 45 = .ok (.istore 4, 2) := by decide +kernel
theorem d_Mo_care_47 : decode c_Mo_care 47 = .ok (.aload_n 0, 1) := by decide +kernel
theorem d_Mo_care_48 : decode c_Mo_care 48 = .ok (.getfield 25, 3) := by decide +kernel
theorem d_Mo_care_51 : decode c_Mo_care 51 = .ok (.iconst 4, 1) := by decide +kernel
theorem d_Mo_care_52 : decode c_Mo_care 52 = .ok (.iload_n 1, 1) := by decide +kernel
theorem d_Mo_care_53 : decode c_Mo_care 53 = .ok (.imul, 1) := by decide +kernel
theorem d_Mo_care_54 : decode c_Mo_care 54 = .ok (.iload_n 2, 1) := by decide +kernel
theorem d_Mo_care_55 : decode c_Mo_care 55 = .ok (.iadd, 1) := by decide +kernel
theorem d_Mo_care_56 : decode c_Mo_care 56 = .ok (.iload_n 3, 1) := by decide +kernel
theorem d_Mo_care_57 : decode c_Mo_care 57 = .ok (.iastore, 1) := by decide +kernel
theorem d_Mo_care_58 : decode c_Mo_care 58 = .ok (.iload 4, 2) := by decide +kernel
theorem d_Mo_care_60 : decode c_Mo_care 60 = .ok (.ireturn, 1) := by decide +kernel
theorem d_Mo_begins_0 : decode c_Mo_begins 0 = .ok (.iconst 0, 1) := by decide +kernel
theorem d_Mo_begins_1 : decode c_Mo_begins 1 = .ok (.istore_n 3, 1) := by decide +kernel
theorem d_Mo_begins_2 : decode c_Mo_begins 2 = .ok (.iconst 0, 1) := by decide +kernel
theorem d_Mo_begins_3 : decode c_Mo_begins 3 = .ok (.istore 4, 2) := by decide +kernel
theorem d_Mo_begins_5 : decode c_Mo_begins 5 = .ok (.iload 4, 2) := by decide +kernel
theorem d_Mo_begins_7 : decode c_Mo_begins 7 = .ok (.aload_n 0, 1) := by decide +kernel
theorem d_Mo_begins_8 : decode c_Mo_begins 8 = .ok (.getfield 75, 3) := by decide +kernel
theorem d_Mo_begins_11 : decode c_Mo_begins 11 = .ok (.if_icmp .ge 79, 3) := by decide +kernel
theorem d_Mo_begins_14 : decode c_Mo_begins 14 = .ok (.aload_n 0, 1) := by decide +kernel
theorem d_Mo_begins_15 : decode c_Mo_begins 15 = .ok (.getfield 106, 3) := by decide +kernel
theorem d_Mo_begins_18 : decode c_Mo_begins 18 = .ok (.iload 4, 2) := by decide +kernel
theorem d_Mo_begins_20 : decode c_Mo_begins 20 = .ok (.ishr, 1) := by decide +kernel
theorem d_Mo_begins_21 : decode c_Mo_begins 21 = .ok (.iconst 1, 1) := by decide +kernel
theorem d_Mo_begins_22 : decode c_Mo_begins 22 = .ok (.iand, 1) := by decide +kernel
theorem d_Mo_begins_23 : decode c_Mo_begins 23 = .ok (.iconst 1, 1) := by decide +kernel
theorem d_Mo_begins_24 : decode c_Mo_begins 24 = .ok (.if_icmp .ne 29, 3) := by decide +kernel
theorem d_Mo_begins_27 : decode c_Mo_begins 27 = .ok (.aload_n 0, 1) := by decide +kernel
theorem d_Mo_begins_28 : decode c_Mo_begins 28 = .ok (.getfield 37, 3) := by decide +kernel
theorem d_Mo_begins_31 : decode c_Mo_begins 31 = .ok (.iload 4, 2) := by decide +kernel
theorem d_Mo_begins_33 : decode c_Mo_begins 33 = .ok (.iaload, 1) := by decide +kernel
theorem d_Mo_begins_34 : decode c_Mo_begins 34 = .ok (.iload_n 1, 1) := by decide +kernel
theorem d_Mo_begins_35 : decode c_Mo_begins 35 = .ok (.if_icmp .ne 18, 3) := by decide +kernel
theorem d_Mo_begins_38 : decode c_Mo_begins 38 = .ok (.aload_n 0, 1) := by decide +kernel
theorem d_Mo_begins_39 : decode c_Mo_begins 39 = .ok (.getfield 28, 3) := by decide +kernel
theorem d_Mo_begins_42 : decode c_Mo_begins 42 = .ok (.iload 4, 2) := by decide +kernel
theorem d_Mo_begins_44 : decode c_Mo_begins 44 = .ok (.iaload, 1) := by decide +kernel
theorem d_Mo_begins_45 : decode c_Mo_begins 45 = .ok (.iload_n 2, 1) := by decide +kernel
theorem d_Mo_begins_46 : decode c_Mo_begins 46 = .ok (.if_icmp .gt 7, 3) := by decide +kernel
theorem d_Mo_begins_49 : decode c_Mo_begins 49 = .ok (.iconst 1, 1) := by decide +kernel
theorem d_Mo_begins_50 : decode c_Mo_begins 50 = .ok (.goto 4, 3) := by decide +kernel
theorem d_Mo_begins_53 : decode c_Mo_begins 53 = .ok (.iconst 0, 1) := by decide +kernel
theorem d_Mo_begins_54 : decode c_Mo_begins 54 = .ok (.istore 5, 2) := by decide +kernel
theorem d_Mo_begins_56 : decode c_Mo_begins 56 = .ok (.iload 5, 2) := by decide +kernel
theorem d_Mo_begins_58 : decode c_Mo_begins 58 = .ok (.ifCond .eq 24, 3) := by decide +kernel
theorem d_Mo_begins_61 : decode c_Mo_begins 61 = .ok (.aload_n 0, 1) := by decide +kernel
theorem d_Mo_begins_62 : decode c_Mo_begins 62 = .ok (.getfield 28, 3) := by decide +kernel
theorem d_Mo_begins_65 : decode c_Mo_begins 65 = .ok (.iload 4, 2) := by decide +kernel
theorem d_Mo_begins_67 : decode c_Mo_begins 67 = .ok (.iaload, 1) := by decide +kernel
theorem d_Mo_begins_68 : decode c_Mo_begins 68 = .ok (.iload_n 3, 1) := by decide +kernel
theorem d_Mo_begins_69 : decode c_Mo_begins 69 = .ok (.if_icmp .le 13, 3) := by decide +kernel
theorem d_Mo_begins_72 : decode c_Mo_begins 72 = .ok (.aload_n 0, 1) := by decide +kernel
theorem d_Mo_begins_73 : decode c_Mo_begins 73 = .ok (.getfield 28, 3) := by decide +kernel
theorem d_Mo_begins_76 : decode c_Mo_begins 76 = .ok (.iload 4, 2) := by decide +kernel
theorem d_Mo_begins_78 : decode c_Mo_begins 78 = .ok (.iaload, 1) := by decide +kernel
theorem d_Mo_begins_79 : decode c_Mo_begins 79 = .ok (.goto 4, 3) := by decide +kernel
theorem d_Mo_begins_82 : decode c_Mo_begins 82 = .ok (.iload_n 3, 1) := by decide +kernel
theorem d_Mo_begins_83 : decode c_Mo_begins 83 = .ok (.istore_n 3, 1) := by decide +kernel
theorem d_Mo_begins_84 : decode c_Mo_begins 84 = .ok (.iinc 4 1, 3) := by decide +kernel
theorem d_Mo_begins_87 : decode c_Mo_begins 87 = .ok (.goto (-82), 3) := by decide +kernel
theorem d_Mo_begins_90 : decode c_Mo_begins 90 = .ok (.iload_n 3, 1) := by decide +kernel
theorem d_Mo_begins_91 : decode c_Mo_begins 91 = .ok (.ireturn, 1) := by decide +kernel
theorem d_Mo_learn_0 : decode c_Mo_learn 0 = .ok (.iconst 0, 1) := by decide +kernel
theorem d_Mo_learn_1 : decode c_Mo_learn 1 = .ok (.istore_n 3, 1) := by decide +kernel
theorem d_Mo_learn_2 : decode c_Mo_learn 2 = .ok (.iload_n 3, 1) := by decide +kernel
theorem d_Mo_learn_3 : decode c_Mo_learn 3 = .ok (.iconst 4, 1) := by decide +kernel
theorem d_Mo_learn_4 : decode c_Mo_learn 4 = .ok (.if_icmp .ge 30, 3) := by decide +kernel
theorem d_Mo_learn_7 : decode c_Mo_learn 7 = .ok (.aload_n 0, 1) := by decide +kernel
theorem d_Mo_learn_8 : decode c_Mo_learn 8 = .ok (.getfield 50, 3) := by decide +kernel
theorem d_Mo_learn_11 : decode c_Mo_learn 11 = .ok (.iload_n 3, 1) := by decide +kernel
theorem d_Mo_learn_12 : decode c_Mo_learn 12 = .ok (.iload_n 3, 1) := by decide +kernel
theorem d_Mo_learn_13 : decode c_Mo_learn 13 = .ok (.aload_n 0, 1) := by decide +kernel
theorem d_Mo_learn_14 : decode c_Mo_learn 14 = .ok (.getfield 19, 3) := by decide +kernel
theorem d_Mo_learn_17 : decode c_Mo_learn 17 = .ok (.iload_n 1, 1) := by decide +kernel
theorem d_Mo_learn_18 : decode c_Mo_learn 18 = .ok (.iaload, 1) := by decide +kernel
theorem d_Mo_learn_19 : decode c_Mo_learn 19 = .ok (.if_icmp .ne 7, 3) := by decide +kernel
theorem d_Mo_learn_22 : decode c_Mo_learn 22 = .ok (.lconst 1, 1) := by decide +kernel
theorem d_Mo_learn_23 : decode c_Mo_learn 23 = .ok (.goto 4, 3) := by decide +kernel
theorem d_Mo_learn_26 : decode c_Mo_learn 26 = .ok (.lconst 0, 1) := by decide +kernel
theorem d_Mo_learn_27 : decode c_Mo_learn 27 = .ok (.lastore, 1) := by decide +kernel
theorem d_Mo_learn_28 : decode c_Mo_learn 28 = .ok (.iinc 3 1, 3) := by decide +kernel
theorem d_Mo_learn_31 : decode c_Mo_learn 31 = .ok (.goto (-29), 3) := by decide +kernel
theorem d_Mo_learn_34 : decode c_Mo_learn 34 = .ok (.lconst 1, 1) := by decide +kernel
theorem d_Mo_learn_35 : decode c_Mo_learn 35 = .ok (.lstore_n 3, 1) := by decide +kernel
theorem d_Mo_learn_36 : decode c_Mo_learn 36 = .ok (.aload_n 0, 1) := by decide +kernel
theorem d_Mo_learn_37 : decode c_Mo_learn 37 = .ok (.iload_n 1, 1) := by decide +kernel
theorem d_Mo_learn_38 : decode c_Mo_learn 38 = .ok (.iload_n 2, 1) := by decide +kernel
theorem d_Mo_learn_39 : decode c_Mo_learn 39 = .ok (.invokevirtual 109, 3) := by decide +kernel
theorem d_Mo_learn_42 : decode c_Mo_learn 42 = .ok (.istore 5, 2) := by decide +kernel
theorem d_Mo_learn_44 : decode c_Mo_learn 44 = .ok (.iload 5, 2) := by decide +kernel
theorem d_Mo_learn_46 : decode c_Mo_learn 46 = .ok (.iload_n 2, 1) := by decide +kernel
theorem d_Mo_learn_47 : decode c_Mo_learn 47 = .ok (.if_icmp .ge 136, 3) := by decide +kernel
theorem d_Mo_learn_50 : decode c_Mo_learn 50 = .ok (.iconst 0, 1) := by decide +kernel
theorem d_Mo_learn_51 : decode c_Mo_learn 51 = .ok (.istore 6, 2) := by decide +kernel
theorem d_Mo_learn_53 : decode c_Mo_learn 53 = .ok (.iload 6, 2) := by decide +kernel
theorem d_Mo_learn_55 : decode c_Mo_learn 55 = .ok (.iconst 4, 1) := by decide +kernel
theorem d_Mo_learn_56 : decode c_Mo_learn 56 = .ok (.if_icmp .ge 86, 3) := by decide +kernel
theorem d_Mo_learn_59 : decode c_Mo_learn 59 = .ok (.aload_n 0, 1) := by decide +kernel
theorem d_Mo_learn_60 : decode c_Mo_learn 60 = .ok (.getfield 54, 3) := by decide +kernel
theorem d_Mo_learn_63 : decode c_Mo_learn 63 = .ok (.iload 6, 2) := by decide +kernel
theorem d_Mo_learn_65 : decode c_Mo_learn 65 = .ok (.aload_n 0, 1) := by decide +kernel
theorem d_Mo_learn_66 : decode c_Mo_learn 66 = .ok (.getfield 50, 3) := by decide +kernel
theorem d_Mo_learn_69 : decode c_Mo_learn 69 = .ok (.iload 6, 2) := by decide +kernel
theorem d_Mo_learn_71 : decode c_Mo_learn 71 = .ok (.laload, 1) := by decide +kernel
theorem d_Mo_learn_72 : decode c_Mo_learn 72 = .ok (.bipush 16, 2) := by decide +kernel
theorem d_Mo_learn_74 : decode c_Mo_learn 74 = .ok (.aload_n 0, 1) := by decide +kernel
theorem d_Mo_learn_75 : decode c_Mo_learn 75 = .ok (.iload_n 1, 1) := by decide +kernel
theorem d_Mo_learn_76 : decode c_Mo_learn 76 = .ok (.iload 6, 2) := by decide +kernel
theorem d_Mo_learn_78 : decode c_Mo_learn 78 = .ok (.invokevirtual 100, 3) := by decide +kernel
theorem d_Mo_learn_81 : decode c_Mo_learn 81 = .ok (.isub, 1) := by decide +kernel
theorem d_Mo_learn_82 : decode c_Mo_learn 82 = .ok (.i2l, 1) := by decide +kernel
theorem d_Mo_learn_83 : decode c_Mo_learn 83 = .ok (.lmul, 1) := by decide +kernel
theorem d_Mo_learn_84 : decode c_Mo_learn 84 = .ok (.lastore, 1) := by decide +kernel
theorem d_Mo_learn_85 : decode c_Mo_learn 85 = .ok (.iconst 0, 1) := by decide +kernel
theorem d_Mo_learn_86 : decode c_Mo_learn 86 = .ok (.istore 7, 2) := by decide +kernel
theorem d_Mo_learn_88 : decode c_Mo_learn 88 = .ok (.iload 7, 2) := by decide +kernel
theorem d_Mo_learn_90 : decode c_Mo_learn 90 = .ok (.iconst 4, 1) := by decide +kernel
theorem d_Mo_learn_91 : decode c_Mo_learn 91 = .ok (.if_icmp .ge 45, 3) := by decide +kernel
theorem d_Mo_learn_94 : decode c_Mo_learn 94 = .ok (.aload_n 0, 1) := by decide +kernel
theorem d_Mo_learn_95 : decode c_Mo_learn 95 = .ok (.getfield 54, 3) := by decide +kernel
theorem d_Mo_learn_98 : decode c_Mo_learn 98 = .ok (.iload 6, 2) := by decide +kernel
theorem d_Mo_learn_100 : decode c_Mo_learn 100 = .ok (.dup2, 1) := by decide +kernel
theorem d_Mo_learn_101 : decode c_Mo_learn 101 = .ok (.laload, 1) := by decide +kernel
theorem d_Mo_learn_102 : decode c_Mo_learn 102 = .ok (.aload_n 0, 1) := by decide +kernel
theorem d_Mo_learn_103 : decode c_Mo_learn 103 = .ok (.getfield 50, 3) := by decide +kernel
theorem d_Mo_learn_106 : decode c_Mo_learn 106 = .ok (.iload 7, 2) := by decide +kernel
theorem d_Mo_learn_108 : decode c_Mo_learn 108 = .ok (.laload, 1) := by decide +kernel
theorem d_Mo_learn_109 : decode c_Mo_learn 109 = .ok (.aload_n 0, 1) := by decide +kernel
theorem d_Mo_learn_110 : decode c_Mo_learn 110 = .ok (.getfield 22, 3) := by decide +kernel
theorem d_Mo_learn_113 : decode c_Mo_learn 113 = .ok (.bipush 16, 2) := by decide +kernel
theorem d_Mo_learn_115 : decode c_Mo_learn 115 = .ok (.iload_n 1, 1) := by decide +kernel
theorem d_Mo_learn_116 : decode c_Mo_learn 116 = .ok (.imul, 1) := by decide +kernel
theorem d_Mo_learn_117 : decode c_Mo_learn 117 = .ok (.iconst 4, 1) := by decide +kernel
theorem d_Mo_learn_118 : decode c_Mo_learn 118 = .ok (.iload 7, 2) := by decide +kernel
theorem d_Mo_learn_120 : decode c_Mo_learn 120 = .ok (.imul, 1) := by decide +kernel
theorem d_Mo_learn_121 : decode c_Mo_learn 121 = .ok (.iadd, 1) := by decide +kernel
theorem d_Mo_learn_122 : decode c_Mo_learn 122 = .ok (.iload 6, 2) := by decide +kernel
theorem d_Mo_learn_124 : decode c_Mo_learn 124 = .ok (.iadd, 1) := by decide +kernel
theorem d_Mo_learn_125 : decode c_Mo_learn 125 = .ok (.iaload, 1) := by decide +kernel
theorem d_Mo_learn_126 : decode c_Mo_learn 126 = .ok (.i2l, 1) := by decide +kernel
theorem d_Mo_learn_127 : decode c_Mo_learn 127 = .ok (.lmul, 1) := by decide +kernel
theorem d_Mo_learn_128 : decode c_Mo_learn 128 = .ok (.ladd, 1) := by decide +kernel
theorem d_Mo_learn_129 : decode c_Mo_learn 129 = .ok (.lastore, 1) := by decide +kernel
theorem d_Mo_learn_130 : decode c_Mo_learn 130 = .ok (.iinc 7 1, 3) := by decide +kernel
theorem d_Mo_learn_133 : decode c_Mo_learn 133 = .ok (.goto (-45), 3) := by decide +kernel
theorem d_Mo_learn_136 : decode c_Mo_learn 136 = .ok (.iinc 6 1, 3) := by decide +kernel
theorem d_Mo_learn_139 : decode c_Mo_learn 139 = .ok (.goto (-86), 3) := by decide +kernel
theorem d_Mo_learn_142 : decode c_Mo_learn 142 = .ok (.iconst 0, 1) := by decide +kernel
theorem d_Mo_learn_143 : decode c_Mo_learn 143 = .ok (.istore 6, 2) := by decide +kernel
theorem d_Mo_learn_145 : decode c_Mo_learn 145 = .ok (.iload 6, 2) := by decide +kernel
theorem d_Mo_learn_147 : decode c_Mo_learn 147 = .ok (.iconst 4, 1) := by decide +kernel
theorem d_Mo_learn_148 : decode c_Mo_learn 148 = .ok (.if_icmp .ge 23, 3) := by decide +kernel
theorem d_Mo_learn_151 : decode c_Mo_learn 151 = .ok (.aload_n 0, 1) := by decide +kernel
theorem d_Mo_learn_152 : decode c_Mo_learn 152 = .ok (.getfield 50, 3) := by decide +kernel
theorem d_Mo_learn_155 : decode c_Mo_learn 155 = .ok (.iload 6, 2) := by decide +kernel
theorem d_Mo_learn_157 : decode c_Mo_learn 157 = .ok (.aload_n 0, 1) := by decide +kernel
theorem d_Mo_learn_158 : decode c_Mo_learn 158 = .ok (.getfield 54, 3) := by decide +kernel
theorem d_Mo_learn_161 : decode c_Mo_learn 161 = .ok (.iload 6, 2) := by decide +kernel
theorem d_Mo_learn_163 : decode c_Mo_learn 163 = .ok (.laload, 1) := by decide +kernel
theorem d_Mo_learn_164 : decode c_Mo_learn 164 = .ok (.lastore, 1) := by decide +kernel
theorem d_Mo_learn_165 : decode c_Mo_learn 165 = .ok (.iinc 6 1, 3) := by decide +kernel
theorem d_Mo_learn_168 : decode c_Mo_learn 168 = .ok (.goto (-23), 3) := by decide +kernel
theorem d_Mo_learn_171 : decode c_Mo_learn 171 = .ok (.ldc2_w 98, 3) := by decide +kernel
theorem d_Mo_learn_174 : decode c_Mo_learn 174 = .ok (.lload_n 3, 1) := by decide +kernel
theorem d_Mo_learn_175 : decode c_Mo_learn 175 = .ok (.lmul, 1) := by decide +kernel
theorem d_Mo_learn_176 : decode c_Mo_learn 176 = .ok (.lstore_n 3, 1) := by decide +kernel
theorem d_Mo_learn_177 : decode c_Mo_learn 177 = .ok (.iinc 5 1, 3) := by decide +kernel
theorem d_Mo_learn_180 : decode c_Mo_learn 180 = .ok (.goto (-136), 3) := by decide +kernel
theorem d_Mo_learn_183 : decode c_Mo_learn 183 = .ok (.lload_n 3, 1) := by decide +kernel
theorem d_Mo_learn_184 : decode c_Mo_learn 184 = .ok (.lreturn, 1) := by decide +kernel
theorem d_Mo_share_0 : decode c_Mo_share 0 = .ok (.aload_n 0, 1) := by decide +kernel
theorem d_Mo_share_1 : decode c_Mo_share 1 = .ok (.aload_n 0, 1) := by decide +kernel
theorem d_Mo_share_2 : decode c_Mo_share 2 = .ok (.iload_n 1, 1) := by decide +kernel
theorem d_Mo_share_3 : decode c_Mo_share 3 = .ok (.iload_n 2, 1) := by decide +kernel
theorem d_Mo_share_4 : decode c_Mo_share 4 = .ok (.invokevirtual 94, 3) := by decide +kernel
theorem d_Mo_share_7 : decode c_Mo_share 7 = .ok (.ifCond .eq 15, 3) := by decide +kernel
theorem d_Mo_share_10 : decode c_Mo_share 10 = .ok (.aload_n 0, 1) := by decide +kernel
theorem d_Mo_share_11 : decode c_Mo_share 11 = .ok (.iload_n 3, 1) := by decide +kernel
theorem d_Mo_share_12 : decode c_Mo_share 12 = .ok (.invokevirtual 78, 3) := by decide +kernel
theorem d_Mo_share_15 : decode c_Mo_share 15 = .ok (.ifCond .eq 7, 3) := by decide +kernel
theorem d_Mo_share_18 : decode c_Mo_share 18 = .ok (.iconst 0, 1) := by decide +kernel
theorem d_Mo_share_19 : decode c_Mo_share 19 = .ok (.goto 4, 3) := by decide +kernel
theorem d_Mo_share_22 : decode c_Mo_share 22 = .ok (.iconst 1, 1) := by decide +kernel
theorem d_Mo_share_23 : decode c_Mo_share 23 = .ok (.invokevirtual 85, 3) := by decide +kernel
theorem d_Mo_share_26 : decode c_Mo_share 26 = .ok (.ifCond .eq 5, 3) := by decide +kernel
theorem d_Mo_share_29 : decode c_Mo_share 29 = .ok (.lconst 0, 1) := by decide +kernel
theorem d_Mo_share_30 : decode c_Mo_share 30 = .ok (.lreturn, 1) := by decide +kernel
theorem d_Mo_share_31 : decode c_Mo_share 31 = .ok (.aload_n 0, 1) := by decide +kernel
theorem d_Mo_share_32 : decode c_Mo_share 32 = .ok (.iload_n 1, 1) := by decide +kernel
theorem d_Mo_share_33 : decode c_Mo_share 33 = .ok (.iload_n 3, 1) := by decide +kernel
theorem d_Mo_share_34 : decode c_Mo_share 34 = .ok (.invokevirtual 112, 3) := by decide +kernel
theorem d_Mo_share_37 : decode c_Mo_share 37 = .ok (.lstore 4, 2) := by decide +kernel
theorem d_Mo_share_39 : decode c_Mo_share 39 = .ok (.aload_n 0, 1) := by decide +kernel
theorem d_Mo_share_40 : decode c_Mo_share 40 = .ok (.getfield 50, 3) := by decide +kernel
theorem d_Mo_share_43 : decode c_Mo_share 43 = .ok (.iload_n 2, 1) := by decide +kernel
theorem d_Mo_share_44 : decode c_Mo_share 44 = .ok (.laload, 1) := by decide +kernel
theorem d_Mo_share_45 : decode c_Mo_share 45 = .ok (.lreturn, 1) := by decide +kernel
theorem d_Mo_careOf_0 : decode c_Mo_careOf 0 = .ok (.aload_n 0, 1) := by decide +kernel
theorem d_Mo_careOf_1 : decode c_Mo_careOf 1 = .ok (.iload_n 1, 1) := by decide +kernel
theorem d_Mo_careOf_2 : decode c_Mo_careOf 2 = .ok (.iload_n 2, 1) := by decide +kernel
theorem d_Mo_careOf_3 : decode c_Mo_careOf 3 = .ok (.invokevirtual 112, 3) := by decide +kernel
theorem d_Mo_careOf_6 : decode c_Mo_careOf 6 = .ok (.lstore_n 3, 1) := by decide +kernel
theorem d_Mo_careOf_7 : decode c_Mo_careOf 7 = .ok (.lconst 0, 1) := by decide +kernel
theorem d_Mo_careOf_8 : decode c_Mo_careOf 8 = .ok (.lstore 5, 2) := by decide +kernel
theorem d_Mo_careOf_10 : decode c_Mo_careOf 10 = .ok (.iconst 0, 1) := by decide +kernel
theorem d_Mo_careOf_11 : decode c_Mo_careOf 11 = .ok (.istore 7, 2) := by decide +kernel
theorem d_Mo_careOf_13 : decode c_Mo_careOf 13 = .ok (.iload 7, 2) := by decide +kernel
theorem d_Mo_careOf_15 : decode c_Mo_careOf 15 = .ok (.iconst 4, 1) := by decide +kernel
theorem d_Mo_careOf_16 : decode c_Mo_careOf 16 = .ok (.if_icmp .ge 34, 3) := by decide +kernel
theorem d_Mo_careOf_19 : decode c_Mo_careOf 19 = .ok (.lload 5, 2) := by decide +kernel
theorem d_Mo_careOf_21 : decode c_Mo_careOf 21 = .ok (.aload_n 0, 1) := by decide +kernel
theorem d_Mo_careOf_22 : decode c_Mo_careOf 22 = .ok (.getfield 50, 3) := by decide +kernel
theorem d_Mo_careOf_25 : decode c_Mo_careOf 25 = .ok (.iload 7, 2) := by decide +kernel
theorem d_Mo_careOf_27 : decode c_Mo_careOf 27 = .ok (.laload, 1) := by decide +kernel
theorem d_Mo_careOf_28 : decode c_Mo_careOf 28 = .ok (.aload_n 0, 1) := by decide +kernel
theorem d_Mo_careOf_29 : decode c_Mo_careOf 29 = .ok (.getfield 25, 3) := by decide +kernel
theorem d_Mo_careOf_32 : decode c_Mo_careOf 32 = .ok (.iconst 4, 1) := by decide +kernel
theorem d_Mo_careOf_33 : decode c_Mo_careOf 33 = .ok (.iload_n 1, 1) := by decide +kernel
theorem d_Mo_careOf_34 : decode c_Mo_careOf 34 = .ok (.imul, 1) := by decide +kernel
theorem d_Mo_careOf_35 : decode c_Mo_careOf 35 = .ok (.iload 7, 2) := by decide +kernel
theorem d_Mo_careOf_37 : decode c_Mo_careOf 37 = .ok (.iadd, 1) := by decide +kernel
theorem d_Mo_careOf_38 : decode c_Mo_careOf 38 = .ok (.iaload, 1) := by decide +kernel
theorem d_Mo_careOf_39 : decode c_Mo_careOf 39 = .ok (.i2l, 1) := by decide +kernel
theorem d_Mo_careOf_40 : decode c_Mo_careOf 40 = .ok (.lmul, 1) := by decide +kernel
theorem d_Mo_careOf_41 : decode c_Mo_careOf 41 = .ok (.ladd, 1) := by decide +kernel
theorem d_Mo_careOf_42 : decode c_Mo_careOf 42 = .ok (.lstore 5, 2) := by decide +kernel
theorem d_Mo_careOf_44 : decode c_Mo_careOf 44 = .ok (.iinc 7 1, 3) := by decide +kernel
theorem d_Mo_careOf_47 : decode c_Mo_careOf 47 = .ok (.goto (-34), 3) := by decide +kernel
theorem d_Mo_careOf_50 : decode c_Mo_careOf 50 = .ok (.lload 5, 2) := by decide +kernel
theorem d_Mo_careOf_52 : decode c_Mo_careOf 52 = .ok (.lload_n 3, 1) := by decide +kernel
theorem d_Mo_careOf_53 : decode c_Mo_careOf 53 = .ok (.ldiv, 1) := by decide +kernel
theorem d_Mo_careOf_54 : decode c_Mo_careOf 54 = .ok (.aload_n 0, 1) := by decide +kernel
theorem d_Mo_careOf_55 : decode c_Mo_careOf 55 = .ok (.getfield 7, 3) := by decide +kernel
theorem d_Mo_careOf_58 : decode c_Mo_careOf 58 = .ok (.iload_n 2, 1) := by decide +kernel
theorem d_Mo_careOf_59 : decode c_Mo_careOf 59 = .ok (.iaload, 1) := by decide +kernel
theorem d_Mo_careOf_60 : decode c_Mo_careOf 60 = .ok (.i2l, 1) := by decide +kernel
theorem d_Mo_careOf_61 : decode c_Mo_careOf 61 = .ok (.lmul, 1) := by decide +kernel
theorem d_Mo_careOf_62 : decode c_Mo_careOf 62 = .ok (.ldc2_w 104, 3) := by decide +kernel
theorem d_Mo_careOf_65 : decode c_Mo_careOf 65 = .ok (.ldiv, 1) := by decide +kernel
theorem d_Mo_careOf_66 : decode c_Mo_careOf 66 = .ok (.lreturn, 1) := by decide +kernel
theorem d_Mo_cares_0 : decode c_Mo_cares 0 = .ok (.aload_n 0, 1) := by decide +kernel
theorem d_Mo_cares_1 : decode c_Mo_cares 1 = .ok (.aload_n 0, 1) := by decide +kernel
theorem d_Mo_cares_2 : decode c_Mo_cares 2 = .ok (.iload_n 1, 1) := by decide +kernel
theorem d_Mo_cares_3 : decode c_Mo_cares 3 = .ok (.invokevirtual 71, 3) := by decide +kernel
theorem d_Mo_cares_6 : decode c_Mo_cares 6 = .ok (.ifCond .eq 15, 3) := by decide +kernel
theorem d_Mo_cares_9 : decode c_Mo_cares 9 = .ok (.aload_n 0, 1) := by decide +kernel
theorem d_Mo_cares_10 : decode c_Mo_cares 10 = .ok (.iload_n 2, 1) := by decide +kernel
theorem d_Mo_cares_11 : decode c_Mo_cares 11 = .ok (.invokevirtual 78, 3) := by decide +kernel
theorem d_Mo_cares_14 : decode c_Mo_cares 14 = .ok (.ifCond .eq 7, 3) := by decide +kernel
theorem d_Mo_cares_17 : decode c_Mo_cares 17 = .ok (.iconst 0, 1) := by decide +kernel
theorem d_Mo_cares_18 : decode c_Mo_cares 18 = .ok (.goto 4, 3) := by decide +kernel
theorem d_Mo_cares_21 : decode c_Mo_cares 21 = .ok (.iconst 1, 1) := by decide +kernel
theorem d_Mo_cares_22 : decode c_Mo_cares 22 = .ok (.invokevirtual 85, 3) := by decide +kernel
theorem d_Mo_cares_25 : decode c_Mo_cares 25 = .ok (.ifCond .eq 7, 3) := by decide +kernel
theorem d_Mo_cares_28 : decode c_Mo_cares 28 = .ok (.iconst 0, 1) := by decide +kernel
theorem d_Mo_cares_29 : decode c_Mo_cares 29 = .ok (.goto 10, 3) := by decide +kernel
theorem d_Mo_cares_32 : decode c_Mo_cares 32 = .ok (.aload_n 0, 1) := by decide +kernel
theorem d_Mo_cares_33 : decode c_Mo_cares 33 = .ok (.iload_n 1, 1) := by decide +kernel
theorem d_Mo_cares_34 : decode c_Mo_cares 34 = .ok (.iload_n 2, 1) := by decide +kernel
theorem d_Mo_cares_35 : decode c_Mo_cares 35 = .ok (.invokevirtual 116, 3) := by decide +kernel
theorem d_Mo_cares_38 : decode c_Mo_cares 38 = .ok (.l2i, 1) := by decide +kernel
theorem d_Mo_cares_39 : decode c_Mo_cares 39 = .ok (.ireturn, 1) := by decide +kernel
theorem d_Mo_most_0 : decode c_Mo_most 0 = .ok (.aload_n 0, 1) := by decide +kernel
theorem d_Mo_most_1 : decode c_Mo_most 1 = .ok (.aload_n 0, 1) := by decide +kernel
theorem d_Mo_most_2 : decode c_Mo_most 2 = .ok (.iload_n 1, 1) := by decide +kernel
theorem d_Mo_most_3 : decode c_Mo_most 3 = .ok (.invokevirtual 71, 3) := by decide +kernel
theorem d_Mo_most_6 : decode c_Mo_most 6 = .ok (.ifCond .eq 15, 3) := by decide +kernel
theorem d_Mo_most_9 : decode c_Mo_most 9 = .ok (.aload_n 0, 1) := by decide +kernel
theorem d_Mo_most_10 : decode c_Mo_most 10 = .ok (.iload_n 2, 1) := by decide +kernel
theorem d_Mo_most_11 : decode c_Mo_most 11 = .ok (.invokevirtual 78, 3) := by decide +kernel
theorem d_Mo_most_14 : decode c_Mo_most 14 = .ok (.ifCond .eq 7, 3) := by decide +kernel
theorem d_Mo_most_17 : decode c_Mo_most 17 = .ok (.iconst 0, 1) := by decide +kernel
theorem d_Mo_most_18 : decode c_Mo_most 18 = .ok (.goto 4, 3) := by decide +kernel
theorem d_Mo_most_21 : decode c_Mo_most 21 = .ok (.iconst 1, 1) := by decide +kernel
theorem d_Mo_most_22 : decode c_Mo_most 22 = .ok (.invokevirtual 85, 3) := by decide +kernel
theorem d_Mo_most_25 : decode c_Mo_most 25 = .ok (.ifCond .eq 5, 3) := by decide +kernel
theorem d_Mo_most_28 : decode c_Mo_most 28 = .ok (.iconst 0, 1) := by decide +kernel
theorem d_Mo_most_29 : decode c_Mo_most 29 = .ok (.ireturn, 1) := by decide +kernel
theorem d_Mo_most_30 : decode c_Mo_most 30 = .ok (.aload_n 0, 1) := by decide +kernel
theorem d_Mo_most_31 : decode c_Mo_most 31 = .ok (.iload_n 1, 1) := by decide +kernel
theorem d_Mo_most_32 : decode c_Mo_most 32 = .ok (.iload_n 2, 1) := by decide +kernel
theorem d_Mo_most_33 : decode c_Mo_most 33 = .ok (.invokevirtual 112, 3) := by decide +kernel
theorem d_Mo_most_36 : decode c_Mo_most 36 = .ok (.lstore_n 3, 1) := by decide +kernel
theorem d_Mo_most_37 : decode c_Mo_most 37 = .ok (.iconst 0, 1) := by decide +kernel
theorem d_Mo_most_38 : decode c_Mo_most 38 = .ok (.istore 5, 2) := by decide +kernel
theorem d_Mo_most_40 : decode c_Mo_most 40 = .ok (.iconst 1, 1) := by decide +kernel
theorem d_Mo_most_41 : decode c_Mo_most 41 = .ok (.istore 6, 2) := by decide +kernel
theorem d_Mo_most_43 : decode c_Mo_most 43 = .ok (.iload 6, 2) := by decide +kernel
theorem d_Mo_most_45 : decode c_Mo_most 45 = .ok (.aload_n 0, 1) := by decide +kernel
theorem d_Mo_most_46 : decode c_Mo_most 46 = .ok (.getfield 16, 3) := by decide +kernel
theorem d_Mo_most_49 : decode c_Mo_most 49 = .ok (.iload_n 1, 1) := by decide +kernel
theorem d_Mo_most_50 : decode c_Mo_most 50 = .ok (.iaload, 1) := by decide +kernel
theorem d_Mo_most_51 : decode c_Mo_most 51 = .ok (.if_icmp .ge 36, 3) := by decide +kernel
theorem d_Mo_most_54 : decode c_Mo_most 54 = .ok (.aload_n 0, 1) := by decide +kernel
theorem d_Mo_most_55 : decode c_Mo_most 55 = .ok (.getfield 50, 3) := by decide +kernel
theorem d_Mo_most_58 : decode c_Mo_most 58 = .ok (.iload 6, 2) := by decide +kernel
theorem d_Mo_most_60 : decode c_Mo_most 60 = .ok (.laload, 1) := by decide +kernel
theorem d_Mo_most_61 : decode c_Mo_most 61 = .ok (.aload_n 0, 1) := by decide +kernel
theorem d_Mo_most_62 : decode c_Mo_most 62 = .ok (.getfield 50, 3) := by decide +kernel
theorem d_Mo_most_65 : decode c_Mo_most 65 = .ok (.iload 5, 2) := by decide +kernel
theorem d_Mo_most_67 : decode c_Mo_most 67 = .ok (.laload, 1) := by decide +kernel
theorem d_Mo_most_68 : decode c_Mo_most 68 = .ok (.lcmp, 1) := by decide +kernel
theorem d_Mo_most_69 : decode c_Mo_most 69 = .ok (.ifCond .lt 8, 3) := by decide +kernel
theorem d_Mo_most_72 : decode c_Mo_most 72 = .ok (.iload 6, 2) := by decide +kernel
theorem d_Mo_most_74 : decode c_Mo_most 74 = .ok (.goto 5, 3) := by decide +kernel
theorem d_Mo_most_77 : decode c_Mo_most 77 = .ok (.iload 5, 2) := by decide +kernel
theorem d_Mo_most_79 : decode c_Mo_most 79 = .ok (.istore 5, 2) := by decide +kernel
theorem d_Mo_most_81 : decode c_Mo_most 81 = .ok (.iinc 6 1, 3) := by decide +kernel
theorem d_Mo_most_84 : decode c_Mo_most 84 = .ok (.goto (-41), 3) := by decide +kernel
theorem d_Mo_most_87 : decode c_Mo_most 87 = .ok (.iload 5, 2) := by decide +kernel
theorem d_Mo_most_89 : decode c_Mo_most 89 = .ok (.ireturn, 1) := by decide +kernel
theorem d_Mo_work_0 : decode c_Mo_work 0 = .ok (.aload_n 0, 1) := by decide +kernel
theorem d_Mo_work_1 : decode c_Mo_work 1 = .ok (.iload_n 1, 1) := by decide +kernel
theorem d_Mo_work_2 : decode c_Mo_work 2 = .ok (.invokevirtual 78, 3) := by decide +kernel
theorem d_Mo_work_5 : decode c_Mo_work 5 = .ok (.ifCond .eq 46, 3) := by decide +kernel
theorem d_Mo_work_8 : decode c_Mo_work 8 = .ok (.iload_n 2, 1) := by decide +kernel
theorem d_Mo_work_9 : decode c_Mo_work 9 = .ok (.i2l, 1) := by decide +kernel
theorem d_Mo_work_10 : decode c_Mo_work 10 = .ok (.lconst 1, 1) := by decide +kernel
theorem d_Mo_work_11 : decode c_Mo_work 11 = .ok (.ldc2_w 119, 3) := by decide +kernel
theorem d_Mo_work_14 : decode c_Mo_work 14 = .ok (.invokestatic 64, 3) := by decide +kernel
theorem d_Mo_work_17 : decode c_Mo_work 17 = .ok (.ifCond .eq 34, 3) := by decide +kernel
theorem d_Mo_work_20 : decode c_Mo_work 20 = .ok (.iload_n 3, 1) := by decide +kernel
theorem d_Mo_work_21 : decode c_Mo_work 21 = .ok (.i2l, 1) := by decide +kernel
theorem d_Mo_work_22 : decode c_Mo_work 22 = .ok (.lconst 0, 1) := by decide +kernel
theorem d_Mo_work_23 : decode c_Mo_work 23 = .ok (.ldc2_w 119, 3) := by decide +kernel
theorem d_Mo_work_26 : decode c_Mo_work 26 = .ok (.invokestatic 64, 3) := by decide +kernel
theorem d_Mo_work_29 : decode c_Mo_work 29 = .ok (.ifCond .eq 22, 3) := by decide +kernel
theorem d_Mo_work_32 : decode c_Mo_work 32 = .ok (.iload 4, 2) := by decide +kernel
theorem d_Mo_work_34 : decode c_Mo_work 34 = .ok (.iconst (-1), 1) := by decide +kernel
theorem d_Mo_work_35 : decode c_Mo_work 35 = .ok (.if_icmp .eq 12, 3) := by decide +kernel
theorem d_Mo_work_38 : decode c_Mo_work 38 = .ok (.aload_n 0, 1) := by decide +kernel
theorem d_Mo_work_39 : decode c_Mo_work 39 = .ok (.iload 4, 2) := by decide +kernel
theorem d_Mo_work_41 : decode c_Mo_work 41 = .ok (.invokevirtual 71, 3) := by decide +kernel
theorem d_Mo_work_44 : decode c_Mo_work 44 = .ok (.ifCond .eq 7, 3) := by decide +kernel
theorem d_Mo_work_47 : decode c_Mo_work 47 = .ok (.iconst 1, 1) := by decide +kernel
theorem d_Mo_work_48 : decode c_Mo_work 48 = .ok (.goto 4, 3) := by decide +kernel
theorem d_Mo_work_51 : decode c_Mo_work 51 = .ok (.iconst 0, 1) := by decide +kernel
theorem d_Mo_work_52 : decode c_Mo_work 52 = .ok (.istore 5, 2) := by decide +kernel
theorem d_Mo_work_54 : decode c_Mo_work 54 = .ok (.aload_n 0, 1) := by decide +kernel
theorem d_Mo_work_55 : decode c_Mo_work 55 = .ok (.iload 5, 2) := by decide +kernel
theorem d_Mo_work_57 : decode c_Mo_work 57 = .ok (.ifCond .ne 7, 3) := by decide +kernel
theorem d_Mo_work_60 : decode c_Mo_work 60 = .ok (.iconst 1, 1) := by decide +kernel
theorem d_Mo_work_61 : decode c_Mo_work 61 = .ok (.goto 17, 3) := by decide +kernel
theorem d_Mo_work_64 : decode c_Mo_work 64 = .ok (.aload_n 0, 1) := by decide +kernel
theorem d_Mo_work_65 : decode c_Mo_work 65 = .ok (.getfield 75, 3) := by decide +kernel
theorem d_Mo_work_68 : decode c_Mo_work 68 = .ok (.bipush 10, 2) := by decide +kernel
theorem d_Mo_work_70 : decode c_Mo_work 70 = .ok (.if_icmp .ne 7, 3) := by decide +kernel
theorem d_Mo_work_73 : decode c_Mo_work 73 = .ok (.iconst 2, 1) := by decide +kernel
theorem d_Mo_work_74 : decode c_Mo_work 74 = .ok (.goto 4, 3) := by decide +kernel
theorem d_Mo_work_77 : decode c_Mo_work 77 = .ok (.iconst 0, 1) := by decide +kernel
theorem d_Mo_work_78 : decode c_Mo_work 78 = .ok (.invokevirtual 85, 3) := by decide +kernel
theorem d_Mo_work_81 : decode c_Mo_work 81 = .ok (.ifCond .eq 5, 3) := by decide +kernel
theorem d_Mo_work_84 : decode c_Mo_work 84 = .ok (.iconst 0, 1) := by decide +kernel
theorem d_Mo_work_85 : decode c_Mo_work 85 = .ok (.ireturn, 1) := by decide +kernel
theorem d_Mo_work_86 : decode c_Mo_work 86 = .ok (.aload_n 0, 1) := by decide +kernel
theorem d_Mo_work_87 : decode c_Mo_work 87 = .ok (.getfield 28, 3) := by decide +kernel
theorem d_Mo_work_90 : decode c_Mo_work 90 = .ok (.aload_n 0, 1) := by decide +kernel
theorem d_Mo_work_91 : decode c_Mo_work 91 = .ok (.getfield 75, 3) := by decide +kernel
theorem d_Mo_work_94 : decode c_Mo_work 94 = .ok (.iload_n 1, 1) := by decide +kernel
theorem d_Mo_work_95 : decode c_Mo_work 95 = .ok (.iastore, 1) := by decide +kernel
theorem d_Mo_work_96 : decode c_Mo_work 96 = .ok (.aload_n 0, 1) := by decide +kernel
theorem d_Mo_work_97 : decode c_Mo_work 97 = .ok (.getfield 31, 3) := by decide +kernel
theorem d_Mo_work_100 : decode c_Mo_work 100 = .ok (.aload_n 0, 1) := by decide +kernel
theorem d_Mo_work_101 : decode c_Mo_work 101 = .ok (.getfield 75, 3) := by decide +kernel
theorem d_Mo_work_104 : decode c_Mo_work 104 = .ok (.iload_n 2, 1) := by decide +kernel
theorem d_Mo_work_105 : decode c_Mo_work 105 = .ok (.iastore, 1) := by decide +kernel
theorem d_Mo_work_106 : decode c_Mo_work 106 = .ok (.aload_n 0, 1) := by decide +kernel
theorem d_Mo_work_107 : decode c_Mo_work 107 = .ok (.getfield 34, 3) := by decide +kernel
theorem d_Mo_work_110 : decode c_Mo_work 110 = .ok (.aload_n 0, 1) := by decide +kernel
theorem d_Mo_work_111 : decode c_Mo_work 111 = .ok (.getfield 75, 3) := by decide +kernel
theorem d_Mo_work_114 : decode c_Mo_work 114 = .ok (.iload_n 3, 1) := by decide +kernel
theorem d_Mo_work_115 : decode c_Mo_work 115 = .ok (.iastore, 1) := by decide +kernel
theorem d_Mo_work_116 : decode c_Mo_work 116 = .ok (.aload_n 0, 1) := by decide +kernel
theorem d_Mo_work_117 : decode c_Mo_work 117 = .ok (.getfield 37, 3) := by decide +kernel
theorem d_Mo_work_120 : decode c_Mo_work 120 = .ok (.aload_n 0, 1) := by decide +kernel
theorem d_Mo_work_121 : decode c_Mo_work 121 = .ok (.getfield 75, 3) := by decide +kernel
theorem d_Mo_work_124 : decode c_Mo_work 124 = .ok (.iload 4, 2) := by decide +kernel
theorem d_Mo_work_126 : decode c_Mo_work 126 = .ok (.iastore, 1) := by decide +kernel
theorem d_Mo_work_127 : decode c_Mo_work 127 = .ok (.aload_n 0, 1) := by decide +kernel
theorem d_Mo_work_128 : decode c_Mo_work 128 = .ok (.getfield 40, 3) := by decide +kernel
theorem d_Mo_work_131 : decode c_Mo_work 131 = .ok (.aload_n 0, 1) := by decide +kernel
theorem d_Mo_work_132 : decode c_Mo_work 132 = .ok (.getfield 75, 3) := by decide +kernel
theorem d_Mo_work_135 : decode c_Mo_work 135 = .ok (.iconst (-1), 1) := by decide +kernel
theorem d_Mo_work_136 : decode c_Mo_work 136 = .ok (.iastore, 1) := by decide +kernel
theorem d_Mo_work_137 : decode c_Mo_work 137 = .ok (.aload_n 0, 1) := by decide +kernel
theorem d_Mo_work_138 : decode c_Mo_work 138 = .ok (.dup, 1) := by decide +kernel
theorem d_Mo_work_139 : decode c_Mo_work 139 = .ok (.getfield 75, 3) := by decide +kernel
theorem d_Mo_work_142 : decode c_Mo_work 142 = .ok (.iconst 1, 1) := by decide +kernel
theorem d_Mo_work_143 : decode c_Mo_work 143 = .ok (.iadd, 1) := by decide +kernel
theorem d_Mo_work_144 : decode c_Mo_work 144 = .ok (.putfield 75, 3) := by decide +kernel
theorem d_Mo_work_147 : decode c_Mo_work 147 = .ok (.aload_n 0, 1) := by decide +kernel
theorem d_Mo_work_148 : decode c_Mo_work 148 = .ok (.getfield 75, 3) := by decide +kernel
theorem d_Mo_work_151 : decode c_Mo_work 151 = .ok (.iconst 1, 1) := by decide +kernel
theorem d_Mo_work_152 : decode c_Mo_work 152 = .ok (.isub, 1) := by decide +kernel
theorem d_Mo_work_153 : decode c_Mo_work 153 = .ok (.ireturn, 1) := by decide +kernel
theorem d_Mo_areTwo_0 : decode c_Mo_areTwo 0 = .ok (.aload_n 0, 1) := by decide +kernel
theorem d_Mo_areTwo_1 : decode c_Mo_areTwo 1 = .ok (.iload_n 1, 1) := by decide +kernel
theorem d_Mo_areTwo_2 : decode c_Mo_areTwo 2 = .ok (.invokevirtual 121, 3) := by decide +kernel
theorem d_Mo_areTwo_5 : decode c_Mo_areTwo 5 = .ok (.ifCond .eq 20, 3) := by decide +kernel
theorem d_Mo_areTwo_8 : decode c_Mo_areTwo 8 = .ok (.aload_n 0, 1) := by decide +kernel
theorem d_Mo_areTwo_9 : decode c_Mo_areTwo 9 = .ok (.iload_n 2, 1) := by decide +kernel
theorem d_Mo_areTwo_10 : decode c_Mo_areTwo 10 = .ok (.invokevirtual 121, 3) := by decide +kernel
theorem d_Mo_areTwo_13 : decode c_Mo_areTwo 13 = .ok (.ifCond .eq 12, 3) := by decide +kernel
theorem d_Mo_areTwo_16 : decode c_Mo_areTwo 16 = .ok (.iload_n 1, 1) := by decide +kernel
theorem d_Mo_areTwo_17 : decode c_Mo_areTwo 17 = .ok (.iload_n 2, 1) := by decide +kernel
theorem d_Mo_areTwo_18 : decode c_Mo_areTwo 18 = .ok (.if_icmp .eq 7, 3) := by decide +kernel
theorem d_Mo_areTwo_21 : decode c_Mo_areTwo 21 = .ok (.iconst 1, 1) := by decide +kernel
theorem d_Mo_areTwo_22 : decode c_Mo_areTwo 22 = .ok (.goto 4, 3) := by decide +kernel
theorem d_Mo_areTwo_25 : decode c_Mo_areTwo 25 = .ok (.iconst 0, 1) := by decide +kernel
theorem d_Mo_areTwo_26 : decode c_Mo_areTwo 26 = .ok (.ireturn, 1) := by decide +kernel
theorem d_Mo_join_0 : decode c_Mo_join 0 = .ok (.aload_n 0, 1) := by decide +kernel
theorem d_Mo_join_1 : decode c_Mo_join 1 = .ok (.aload_n 0, 1) := by decide +kernel
theorem d_Mo_join_2 : decode c_Mo_join 2 = .ok (.iload_n 1, 1) := by decide +kernel
theorem d_Mo_join_3 : decode c_Mo_join 3 = .ok (.iload_n 2, 1) := by decide +kernel
theorem d_Mo_join_4 : decode c_Mo_join 4 = .ok (.invokevirtual 124, 3) := by decide +kernel
theorem d_Mo_join_7 : decode c_Mo_join 7 = .ok (.ifCond .eq 19, 3) := by decide +kernel
theorem d_Mo_join_10 : decode c_Mo_join 10 = .ok (.iload_n 3, 1) := by decide +kernel
theorem d_Mo_join_11 : decode c_Mo_join 11 = .ok (.i2l, 1) := by decide +kernel
theorem d_Mo_join_12 : decode c_Mo_join 12 = .ok (.lconst 0, 1) := by decide +kernel
theorem d_Mo_join_13 : decode c_Mo_join 13 = .ok (.ldc2_w 119, 3) := by decide +kernel
theorem d_Mo_join_16 : decode c_Mo_join 16 = .ok (.invokestatic 64, 3) := by decide +kernel
theorem d_Mo_join_19 : decode c_Mo_join 19 = .ok (.ifCond .eq 7, 3) := by decide +kernel
theorem d_Mo_join_22 : decode c_Mo_join 22 = .ok (.iconst 0, 1) := by decide +kernel
theorem d_Mo_join_23 : decode c_Mo_join 23 = .ok (.goto 4, 3) := by decide +kernel
theorem d_Mo_join_26 : decode c_Mo_join 26 = .ok (.iconst 1, 1) := by decide +kernel
theorem d_Mo_join_27 : decode c_Mo_join 27 = .ok (.invokevirtual 85, 3) := by decide +kernel
theorem d_Mo_join_30 : decode c_Mo_join 30 = .ok (.ifCond .eq 5, 3) := by decide +kernel
theorem d_Mo_join_33 : decode c_Mo_join 33 = .ok (.iconst 0, 1) := by decide +kernel
theorem d_Mo_join_34 : decode c_Mo_join 34 = .ok (.ireturn, 1) := by decide +kernel
theorem d_Mo_join_35 : decode c_Mo_join 35 = .ok (.aload_n 0, 1) := by decide +kernel
theorem d_Mo_join_36 : decode c_Mo_join 36 = .ok (.getfield 43, 3) := by decide +kernel
theorem d_Mo_join_39 : decode c_Mo_join 39 = .ok (.bipush 10, 2) := by decide +kernel
theorem d_Mo_join_41 : decode c_Mo_join 41 = .ok (.iload_n 1, 1) := by decide +kernel
theorem d_Mo_join_42 : decode c_Mo_join 42 = .ok (.imul, 1) := by decide +kernel
theorem d_Mo_join_43 : decode c_Mo_join 43 = .ok (.iload_n 2, 1) := by decide +kernel
theorem d_Mo_join_44 : decode c_Mo_join 44 = .ok (.iadd, 1) := by decide +kernel
theorem d_Mo_join_45 : decode c_Mo_join 45 = .ok (.iaload, 1) := by decide +kernel
theorem d_Mo_join_46 : decode c_Mo_join 46 = .ok (.istore 4, 2) := by decide +kernel
theorem d_Mo_join_48 : decode c_Mo_join 48 = .ok (.aload_n 0, 1) := by decide +kernel
theorem d_Mo_join_49 : decode c_Mo_join 49 = .ok (.getfield 43, 3) := by decide +kernel
theorem d_Mo_join_52 : decode c_Mo_join 52 = .ok (.bipush 10, 2) := by decide +kernel
theorem d_Mo_join_54 : decode c_Mo_join 54 = .ok (.iload_n 1, 1) := by decide +kernel
theorem d_Mo_join_55 : decode c_Mo_join 55 = .ok (.imul, 1) := by decide +kernel
theorem d_Mo_join_56 : decode c_Mo_join 56 = .ok (.iload_n 2, 1) := by decide +kernel
theorem d_Mo_join_57 : decode c_Mo_join 57 = .ok (.iadd, 1) := by decide +kernel
theorem d_Mo_join_58 : decode c_Mo_join 58 = .ok (.iload_n 3, 1) := by decide +kernel
theorem d_Mo_join_59 : decode c_Mo_join 59 = .ok (.iastore, 1) := by decide +kernel
theorem d_Mo_join_60 : decode c_Mo_join 60 = .ok (.aload_n 0, 1) := by decide +kernel
theorem d_Mo_join_61 : decode c_Mo_join 61 = .ok (.getfield 43, 3) := by decide +kernel
theorem d_Mo_join_64 : decode c_Mo_join 64 = .ok (.bipush 10, 2) := by decide +kernel
theorem d_Mo_join_66 : decode c_Mo_join 66 = .ok (.iload_n 2, 1) := by decide +kernel
theorem d_Mo_join_67 : decode c_Mo_join 67 = .ok (.imul, 1) := by decide +kernel
theorem d_Mo_join_68 : decode c_Mo_join 68 = .ok (.iload_n 1, 1) := by decide +kernel
theorem d_Mo_join_69 : decode c_Mo_join 69 = .ok (.iadd, 1) := by decide +kernel
theorem d_Mo_join_70 : decode c_Mo_join 70 = .ok (.iload_n 3, 1) := by decide +kernel
theorem d_Mo_join_71 : decode c_Mo_join 71 = .ok (.iastore, 1) := by decide +kernel
theorem d_Mo_join_72 : decode c_Mo_join 72 = .ok (.iload 4, 2) := by decide +kernel
theorem d_Mo_join_74 : decode c_Mo_join 74 = .ok (.ireturn, 1) := by decide +kernel
theorem d_Mo_clash_0 : decode c_Mo_clash 0 = .ok (.aload_n 0, 1) := by decide +kernel
theorem d_Mo_clash_1 : decode c_Mo_clash 1 = .ok (.aload_n 0, 1) := by decide +kernel
theorem d_Mo_clash_2 : decode c_Mo_clash 2 = .ok (.iload_n 1, 1) := by decide +kernel
theorem d_Mo_clash_3 : decode c_Mo_clash 3 = .ok (.iload_n 2, 1) := by decide +kernel
theorem d_Mo_clash_4 : decode c_Mo_clash 4 = .ok (.invokevirtual 124, 3) := by decide +kernel
theorem d_Mo_clash_7 : decode c_Mo_clash 7 = .ok (.ifCond .eq 7, 3) := by decide +kernel
theorem d_Mo_clash_10 : decode c_Mo_clash 10 = .ok (.iconst 0, 1) := by decide +kernel
theorem d_Mo_clash_11 : decode c_Mo_clash 11 = .ok (.goto 4, 3) := by decide +kernel
theorem d_Mo_clash_14 : decode c_Mo_clash 14 = .ok (.iconst 1, 1) := by decide +kernel
theorem d_Mo_clash_15 : decode c_Mo_clash 15 = .ok (.invokevirtual 85, 3) := by decide +kernel
theorem d_Mo_clash_18 : decode c_Mo_clash 18 = .ok (.ifCond .eq 5, 3) := by decide +kernel
theorem d_Mo_clash_21 : decode c_Mo_clash 21 = .ok (.iconst 0, 1) := by decide +kernel
theorem d_Mo_clash_22 : decode c_Mo_clash 22 = .ok (.ireturn, 1) := by decide +kernel
theorem d_Mo_clash_23 : decode c_Mo_clash 23 = .ok (.aload_n 0, 1) := by decide +kernel
theorem d_Mo_clash_24 : decode c_Mo_clash 24 = .ok (.getfield 46, 3) := by decide +kernel
theorem d_Mo_clash_27 : decode c_Mo_clash 27 = .ok (.bipush 10, 2) := by decide +kernel
theorem d_Mo_clash_29 : decode c_Mo_clash 29 = .ok (.iload_n 1, 1) := by decide +kernel
theorem d_Mo_clash_30 : decode c_Mo_clash 30 = .ok (.imul, 1) := by decide +kernel
theorem d_Mo_clash_31 : decode c_Mo_clash 31 = .ok (.iload_n 2, 1) := by decide +kernel
theorem d_Mo_clash_32 : decode c_Mo_clash 32 = .ok (.iadd, 1) := by decide +kernel
theorem d_Mo_clash_33 : decode c_Mo_clash 33 = .ok (.baload, 1) := by decide +kernel
theorem d_Mo_clash_34 : decode c_Mo_clash 34 = .ok (.istore 4, 2) := by decide +kernel
theorem d_Mo_clash_36 : decode c_Mo_clash 36 = .ok (.aload_n 0, 1) := by decide +kernel
theorem d_Mo_clash_37 : decode c_Mo_clash 37 = .ok (.getfield 46, 3) := by decide +kernel
theorem d_Mo_clash_40 : decode c_Mo_clash 40 = .ok (.bipush 10, 2) := by decide +kernel
theorem d_Mo_clash_42 : decode c_Mo_clash 42 = .ok (.iload_n 1, 1) := by decide +kernel
theorem d_Mo_clash_43 : decode c_Mo_clash 43 = .ok (.imul, 1) := by decide +kernel
theorem d_Mo_clash_44 : decode c_Mo_clash 44 = .ok (.iload_n 2, 1) := by decide +kernel
theorem d_Mo_clash_45 : decode c_Mo_clash 45 = .ok (.iadd, 1) := by decide +kernel
theorem d_Mo_clash_46 : decode c_Mo_clash 46 = .ok (.iload_n 3, 1) := by decide +kernel
theorem d_Mo_clash_47 : decode c_Mo_clash 47 = .ok (.bastore, 1) := by decide +kernel
theorem d_Mo_clash_48 : decode c_Mo_clash 48 = .ok (.aload_n 0, 1) := by decide +kernel
theorem d_Mo_clash_49 : decode c_Mo_clash 49 = .ok (.getfield 46, 3) := by decide +kernel
theorem d_Mo_clash_52 : decode c_Mo_clash 52 = .ok (.bipush 10, 2) := by decide +kernel
theorem d_Mo_clash_54 : decode c_Mo_clash 54 = .ok (.iload_n 2, 1) := by decide +kernel
theorem d_Mo_clash_55 : decode c_Mo_clash 55 = .ok (.imul, 1) := by decide +kernel
theorem d_Mo_clash_56 : decode c_Mo_clash 56 = .ok (.iload_n 1, 1) := by decide +kernel
theorem d_Mo_clash_57 : decode c_Mo_clash 57 = .ok (.iadd, 1) := by decide +kernel
theorem d_Mo_clash_58 : decode c_Mo_clash 58 = .ok (.iload_n 3, 1) := by decide +kernel
theorem d_Mo_clash_59 : decode c_Mo_clash 59 = .ok (.bastore, 1) := by decide +kernel
theorem d_Mo_clash_60 : decode c_Mo_clash 60 = .ok (.iload 4, 2) := by decide +kernel
theorem d_Mo_clash_62 : decode c_Mo_clash 62 = .ok (.ireturn, 1) := by decide +kernel
theorem d_Mo_needs_0 : decode c_Mo_needs 0 = .ok (.aload_n 0, 1) := by decide +kernel
theorem d_Mo_needs_1 : decode c_Mo_needs 1 = .ok (.aload_n 0, 1) := by decide +kernel
theorem d_Mo_needs_2 : decode c_Mo_needs 2 = .ok (.iload_n 1, 1) := by decide +kernel
theorem d_Mo_needs_3 : decode c_Mo_needs 3 = .ok (.invokevirtual 121, 3) := by decide +kernel
theorem d_Mo_needs_6 : decode c_Mo_needs 6 = .ok (.ifCond .eq 21, 3) := by decide +kernel
theorem d_Mo_needs_9 : decode c_Mo_needs 9 = .ok (.iload_n 2, 1) := by decide +kernel
theorem d_Mo_needs_10 : decode c_Mo_needs 10 = .ok (.iconst (-1), 1) := by decide +kernel
theorem d_Mo_needs_11 : decode c_Mo_needs 11 = .ok (.if_icmp .eq 12, 3) := by decide +kernel
theorem d_Mo_needs_14 : decode c_Mo_needs 14 = .ok (.aload_n 0, 1) := by decide +kernel
theorem d_Mo_needs_15 : decode c_Mo_needs 15 = .ok (.iload_n 1, 1) := by decide +kernel
theorem d_Mo_needs_16 : decode c_Mo_needs 16 = .ok (.iload_n 2, 1) := by decide +kernel
theorem d_Mo_needs_17 : decode c_Mo_needs 17 = .ok (.invokevirtual 124, 3) := by decide +kernel
theorem d_Mo_needs_20 : decode c_Mo_needs 20 = .ok (.ifCond .eq 7, 3) := by decide +kernel
theorem d_Mo_needs_23 : decode c_Mo_needs 23 = .ok (.iconst 0, 1) := by decide +kernel
theorem d_Mo_needs_24 : decode c_Mo_needs 24 = .ok (.goto 4, 3) := by decide +kernel
theorem d_Mo_needs_27 : decode c_Mo_needs 27 = .ok (.iconst 1, 1) := by decide +kernel
theorem d_Mo_needs_28 : decode c_Mo_needs 28 = .ok (.invokevirtual 85, 3) := by decide +kernel
theorem d_Mo_needs_31 : decode c_Mo_needs 31 = .ok (.ifCond .eq 5, 3) := by decide +kernel
theorem d_Mo_needs_34 : decode c_Mo_needs 34 = .ok (.iconst 0, 1) := by decide +kernel
theorem d_Mo_needs_35 : decode c_Mo_needs 35 = .ok (.ireturn, 1) := by decide +kernel
theorem d_Mo_needs_36 : decode c_Mo_needs 36 = .ok (.aload_n 0, 1) := by decide +kernel
theorem d_Mo_needs_37 : decode c_Mo_needs 37 = .ok (.getfield 40, 3) := by decide +kernel
theorem d_Mo_needs_40 : decode c_Mo_needs 40 = .ok (.iload_n 1, 1) := by decide +kernel
theorem d_Mo_needs_41 : decode c_Mo_needs 41 = .ok (.iaload, 1) := by decide +kernel
theorem d_Mo_needs_42 : decode c_Mo_needs 42 = .ok (.istore_n 3, 1) := by decide +kernel
theorem d_Mo_needs_43 : decode c_Mo_needs 43 = .ok (.aload_n 0, 1) := by decide +kernel
theorem d_Mo_needs_44 : decode c_Mo_needs 44 = .ok (.getfield 40, 3) := by decide +kernel
theorem d_Mo_needs_47 : decode c_Mo_needs 47 = .ok (.iload_n 1, 1) := by decide +kernel
theorem d_Mo_needs_48 : decode c_Mo_needs 48 = .ok (.iload_n 2, 1) := by decide +kernel
theorem d_Mo_needs_49 : decode c_Mo_needs 49 = .ok (.iastore, 1) := by decide +kernel
theorem d_Mo_needs_50 : decode c_Mo_needs 50 = .ok (.iload_n 3, 1) := by decide +kernel
theorem d_Mo_needs_51 : decode c_Mo_needs 51 = .ok (.ireturn, 1) := by decide +kernel
theorem d_Mo_has_0 : decode c_Mo_has 0 = .ok (.iload_n 0, 1) := by decide +kernel
theorem d_Mo_has_1 : decode c_Mo_has 1 = .ok (.iload_n 1, 1) := by decide +kernel
theorem d_Mo_has_2 : decode c_Mo_has 2 = .ok (.ishr, 1) := by decide +kernel
theorem d_Mo_has_3 : decode c_Mo_has 3 = .ok (.iconst 1, 1) := by decide +kernel
theorem d_Mo_has_4 : decode c_Mo_has 4 = .ok (.iand, 1) := by decide +kernel
theorem d_Mo_has_5 : decode c_Mo_has 5 = .ok (.iconst 1, 1) := by decide +kernel
theorem d_Mo_has_6 : decode c_Mo_has 6 = .ok (.if_icmp .ne 7, 3) := by decide +kernel
theorem d_Mo_has_9 : decode c_Mo_has 9 = .ok (.iconst 1, 1) := by decide +kernel
theorem d_Mo_has_10 : decode c_Mo_has 10 = .ok (.goto 4, 3) := by decide +kernel
theorem d_Mo_has_13 : decode c_Mo_has 13 = .ok (.iconst 0, 1) := by decide +kernel
theorem d_Mo_has_14 : decode c_Mo_has 14 = .ok (.ireturn, 1) := by decide +kernel
theorem d_Mo_goesTogether_0 : decode c_Mo_goesTogether 0 = .ok (.iconst 0, 1) := by decide +kernel
theorem d_Mo_goesTogether_1 : decode c_Mo_goesTogether 1 = .ok (.istore_n 2, 1) := by decide +kernel
theorem d_Mo_goesTogether_2 : decode c_Mo_goesTogether 2 = .ok (.iload_n 2, 1) := by decide +kernel
theorem d_Mo_goesTogether_3 : decode c_Mo_goesTogether 3 = .ok (.aload_n 0, 1) := by decide +kernel
theorem d_Mo_goesTogether_4 : decode c_Mo_goesTogether 4 = .ok (.getfield 75, 3) := by decide +kernel
theorem d_Mo_goesTogether_7 : decode c_Mo_goesTogether 7 = .ok (.if_icmp .ge 97, 3) := by decide +kernel
theorem d_Mo_goesTogether_10 : decode c_Mo_goesTogether 10 = .ok (.iload_n 1, 1) := by decide +kernel
theorem d_Mo_goesTogether_11 : decode c_Mo_goesTogether 11 = .ok (.iload_n 2, 1) := by decide +kernel
theorem d_Mo_goesTogether_12 : decode c_Mo_goesTogether 12 = .ok (.invokestatic 127, 3) := by decide +kernel
theorem d_Mo_goesTogether_15 : decode c_Mo_goesTogether 15 = .ok (.ifCond .ne 6, 3) := by decide +kernel
theorem d_Mo_goesTogether_18 : decode c_Mo_goesTogether 18 = .ok (.goto 80, 3) := by decide +kernel
theorem d_Mo_goesTogether_21 : decode c_Mo_goesTogether 21 = .ok (.aload_n 0, 1) := by decide +kernel
theorem d_Mo_goesTogether_22 : decode c_Mo_goesTogether 22 = .ok (.getfield 40, 3) := by decide +kernel
theorem d_Mo_goesTogether_25 : decode c_Mo_goesTogether 25 = .ok (.iload_n 2, 1) := by decide +kernel
theorem d_Mo_goesTogether_26 : decode c_Mo_goesTogether 26 = .ok (.iaload, 1) := by decide +kernel
theorem d_Mo_goesTogether_27 : decode c_Mo_goesTogether 27 = .ok (.istore_n 3, 1) := by decide +kernel
theorem d_Mo_goesTogether_28 : decode c_Mo_goesTogether 28 = .ok (.iload_n 3, 1) := by decide +kernel
theorem d_Mo_goesTogether_29 : decode c_Mo_goesTogether 29 = .ok (.ifCond .lt 28, 3) := by decide +kernel
theorem d_Mo_goesTogether_32 : decode c_Mo_goesTogether 32 = .ok (.iload_n 1, 1) := by decide +kernel
theorem d_Mo_goesTogether_33 : decode c_Mo_goesTogether 33 = .ok (.iload_n 3, 1) := by decide +kernel
theorem d_Mo_goesTogether_34 : decode c_Mo_goesTogether 34 = .ok (.invokestatic 127, 3) := by decide +kernel
theorem d_Mo_goesTogether_37 : decode c_Mo_goesTogether 37 = .ok (.ifCond .eq 18, 3) := by decide +kernel
theorem d_Mo_goesTogether_40 : decode c_Mo_goesTogether 40 = .ok (.aload_n 0, 1) := by decide +kernel
theorem d_Mo_goesTogether_41 : decode c_Mo_goesTogether 41 = .ok (.getfield 28, 3) := by decide +kernel
theorem d_Mo_goesTogether_44 : decode c_Mo_goesTogether 44 = .ok (.iload_n 2, 1) := by decide +kernel
theorem d_Mo_goesTogether_45 : decode c_Mo_goesTogether 45 = .ok (.iaload, 1) := by decide +kernel
theorem d_Mo_goesTogether_46 : decode c_Mo_goesTogether 46 = .ok (.aload_n 0, 1) := by decide +kernel
theorem d_Mo_goesTogether_47 : decode c_Mo_goesTogether 47 = .ok (.getfield 28, 3) := by decide +kernel
theorem d_Mo_goesTogether_50 : decode c_Mo_goesTogether 50 = .ok (.iload_n 3, 1) := by decide +kernel
theorem d_Mo_goesTogether_51 : decode c_Mo_goesTogether 51 = .ok (.iaload, 1) := by decide +kernel
theorem d_Mo_goesTogether_52 : decode c_Mo_goesTogether 52 = .ok (.if_icmp .ge 5, 3) := by decide +kernel
theorem d_Mo_goesTogether_55 : decode c_Mo_goesTogether 55 = .ok (.iconst 0, 1) := by decide +kernel
theorem d_Mo_goesTogether_56 : decode c_Mo_goesTogether 56 = .ok (.ireturn, 1) := by decide +kernel
theorem d_Mo_goesTogether_57 : decode c_Mo_goesTogether 57 = .ok (.iconst 0, 1) := by decide +kernel
theorem d_Mo_goesTogether_58 : decode c_Mo_goesTogether 58 = .ok (.istore 4, 2) := by decide +kernel
theorem d_Mo_goesTogether_60 : decode c_Mo_goesTogether 60 = .ok (.iload 4, 2) := by decide +kernel
theorem d_Mo_goesTogether_62 : decode c_Mo_goesTogether 62 = .ok (.iload_n 2, 1) := by decide +kernel
theorem d_Mo_goesTogether_63 : decode c_Mo_goesTogether 63 = .ok (.if_icmp .ge 35, 3) := by decide +kernel
theorem d_Mo_goesTogether_66 : decode c_Mo_goesTogether 66 = .ok (.iload_n 1, 1) := by decide +kernel
theorem d_Mo_goesTogether_67 : decode c_Mo_goesTogether 67 = .ok (.iload 4, 2) := by decide +kernel
theorem d_Mo_goesTogether_69 : decode c_Mo_goesTogether 69 = .ok (.invokestatic 127, 3) := by decide +kernel
theorem d_Mo_goesTogether_72 : decode c_Mo_goesTogether 72 = .ok (.ifCond .eq 20, 3) := by decide +kernel
theorem d_Mo_goesTogether_75 : decode c_Mo_goesTogether 75 = .ok (.aload_n 0, 1) := by decide +kernel
theorem d_Mo_goesTogether_76 : decode c_Mo_goesTogether 76 = .ok (.getfield 46, 3) := by decide +kernel
theorem d_Mo_goesTogether_79 : decode c_Mo_goesTogether 79 = .ok (.bipush 10, 2) := by decide +kernel
theorem d_Mo_goesTogether_81 : decode c_Mo_goesTogether 81 = .ok (.iload_n 2, 1) := by decide +kernel
theorem d_Mo_goesTogether_82 : decode c_Mo_goesTogether 82 = .ok (.imul, 1) := by decide +kernel
theorem d_Mo_goesTogether_83 : decode c_Mo_goesTogether 83 = .ok (.iload 4, 2) := by decide +kernel
theorem d_Mo_goesTogether_85 : decode c_Mo_goesTogether 85 = .ok (.iadd, 1) := by decide +kernel
theorem d_Mo_goesTogether_86 : decode c_Mo_goesTogether 86 = .ok (.baload, 1) := by decide +kernel
theorem d_Mo_goesTogether_87 : decode c_Mo_goesTogether 87 = .ok (.ifCond .eq 5, 3) := by decide +kernel
theorem d_Mo_goesTogether_90 : decode c_Mo_goesTogether 90 = .ok (.iconst 0, 1) := by decide +kernel
theorem d_Mo_goesTogether_91 : decode c_Mo_goesTogether 91 = .ok (.ireturn, 1) := by decide +kernel
theorem d_Mo_goesTogether_92 : decode c_Mo_goesTogether 92 = .ok (.iinc 4 1, 3) := by decide +kernel
theorem d_Mo_goesTogether_95 : decode c_Mo_goesTogether 95 = .ok (.goto (-35), 3) := by decide +kernel
theorem d_Mo_goesTogether_98 : decode c_Mo_goesTogether 98 = .ok (.iinc 2 1, 3) := by decide +kernel
theorem d_Mo_goesTogether_101 : decode c_Mo_goesTogether 101 = .ok (.goto (-99), 3) := by decide +kernel
theorem d_Mo_goesTogether_104 : decode c_Mo_goesTogether 104 = .ok (.iconst 1, 1) := by decide +kernel
theorem d_Mo_goesTogether_105 : decode c_Mo_goesTogether 105 = .ok (.ireturn, 1) := by decide +kernel
theorem d_Mo_costOf_0 : decode c_Mo_costOf 0 = .ok (.lconst 0, 1) := by decide +kernel
theorem d_Mo_costOf_1 : decode c_Mo_costOf 1 = .ok (.lstore_n 3, 1) := by decide +kernel
theorem d_Mo_costOf_2 : decode c_Mo_costOf 2 = .ok (.iconst 0, 1) := by decide +kernel
theorem d_Mo_costOf_3 : decode c_Mo_costOf 3 = .ok (.istore 5, 2) := by decide +kernel
theorem d_Mo_costOf_5 : decode c_Mo_costOf 5 = .ok (.iload 5, 2) := by decide +kernel
theorem d_Mo_costOf_7 : decode c_Mo_costOf 7 = .ok (.aload_n 0, 1) := by decide +kernel
theorem d_Mo_costOf_8 : decode c_Mo_costOf 8 = .ok (.getfield 75, 3) := by decide +kernel
theorem d_Mo_costOf_11 : decode c_Mo_costOf 11 = .ok (.if_icmp .ge 109, 3) := by decide +kernel
theorem d_Mo_costOf_14 : decode c_Mo_costOf 14 = .ok (.iload_n 1, 1) := by decide +kernel
theorem d_Mo_costOf_15 : decode c_Mo_costOf 15 = .ok (.iload 5, 2) := by decide +kernel
theorem d_Mo_costOf_17 : decode c_Mo_costOf 17 = .ok (.invokestatic 127, 3) := by decide +kernel
theorem d_Mo_costOf_20 : decode c_Mo_costOf 20 = .ok (.ifCond .eq 94, 3) := by decide +kernel
theorem d_Mo_costOf_23 : decode c_Mo_costOf 23 = .ok (.aload_n 0, 1) := by decide +kernel
theorem d_Mo_costOf_24 : decode c_Mo_costOf 24 = .ok (.getfield 28, 3) := by decide +kernel
theorem d_Mo_costOf_27 : decode c_Mo_costOf 27 = .ok (.iload 5, 2) := by decide +kernel
theorem d_Mo_costOf_29 : decode c_Mo_costOf 29 = .ok (.iaload, 1) := by decide +kernel
theorem d_Mo_costOf_30 : decode c_Mo_costOf 30 = .ok (.iload_n 2, 1) := by decide +kernel
theorem d_Mo_costOf_31 : decode c_Mo_costOf 31 = .ok (.if_icmp .ne 83, 3) := by decide +kernel
theorem d_Mo_costOf_34 : decode c_Mo_costOf 34 = .ok (.lload_n 3, 1) := by decide +kernel
theorem d_Mo_costOf_35 : decode c_Mo_costOf 35 = .ok (.aload_n 0, 1) := by decide +kernel
theorem d_Mo_costOf_36 : decode c_Mo_costOf 36 = .ok (.getfield 31, 3) := by decide +kernel
theorem d_Mo_costOf_39 : decode c_Mo_costOf 39 = .ok (.iload 5, 2) := by decide +kernel
theorem d_Mo_costOf_41 : decode c_Mo_costOf 41 = .ok (.iaload, 1) := by decide +kernel
theorem d_Mo_costOf_42 : decode c_Mo_costOf 42 = .ok (.i2l, 1) := by decide +kernel
theorem d_Mo_costOf_43 : decode c_Mo_costOf 43 = .ok (.aload_n 0, 1) := by decide +kernel
theorem d_Mo_costOf_44 : decode c_Mo_costOf 44 = .ok (.getfield 7, 3) := by decide +kernel
theorem d_Mo_costOf_47 : decode c_Mo_costOf 47 = .ok (.iload_n 2, 1) := by decide +kernel
theorem d_Mo_costOf_48 : decode c_Mo_costOf 48 = .ok (.iaload, 1) := by decide +kernel
theorem d_Mo_costOf_49 : decode c_Mo_costOf 49 = .ok (.i2l, 1) := by decide +kernel
theorem d_Mo_costOf_50 : decode c_Mo_costOf 50 = .ok (.lmul, 1) := by decide +kernel
theorem d_Mo_costOf_51 : decode c_Mo_costOf 51 = .ok (.ldc2_w 104, 3) := by decide +kernel
theorem d_Mo_costOf_54 : decode c_Mo_costOf 54 = .ok (.ldiv, 1) := by decide +kernel
theorem d_Mo_costOf_55 : decode c_Mo_costOf 55 = .ok (.ladd, 1) := by decide +kernel
theorem d_Mo_costOf_56 : decode c_Mo_costOf 56 = .ok (.lstore_n 3, 1) := by decide +kernel
theorem d_Mo_costOf_57 : decode c_Mo_costOf 57 = .ok (.iconst 0, 1) := by decide +kernel
theorem d_Mo_costOf_58 : decode c_Mo_costOf 58 = .ok (.istore 6, 2) := by decide +kernel
theorem d_Mo_costOf_60 : decode c_Mo_costOf 60 = .ok (.iload 6, 2) := by decide +kernel
theorem d_Mo_costOf_62 : decode c_Mo_costOf 62 = .ok (.iload 5, 2) := by decide +kernel
theorem d_Mo_costOf_64 : decode c_Mo_costOf 64 = .ok (.if_icmp .ge 50, 3) := by decide +kernel
theorem d_Mo_costOf_67 : decode c_Mo_costOf 67 = .ok (.lload_n 3, 1) := by decide +kernel
theorem d_Mo_costOf_68 : decode c_Mo_costOf 68 = .ok (.iload_n 1, 1) := by decide +kernel
theorem d_Mo_costOf_69 : decode c_Mo_costOf 69 = .ok (.iload 6, 2) := by decide +kernel
theorem d_Mo_costOf_71 : decode c_Mo_costOf 71 = .ok (.invokestatic 127, 3) := by decide +kernel
theorem d_Mo_costOf_74 : decode c_Mo_costOf 74 = .ok (.ifCond .eq 31, 3) := by decide +kernel
theorem d_Mo_costOf_77 : decode c_Mo_costOf 77 = .ok (.aload_n 0, 1) := by decide +kernel
theorem d_Mo_costOf_78 : decode c_Mo_costOf 78 = .ok (.getfield 28, 3) := by decide +kernel
theorem d_Mo_costOf_81 : decode c_Mo_costOf 81 = .ok (.iload 6, 2) := by decide +kernel
theorem d_Mo_costOf_83 : decode c_Mo_costOf 83 = .ok (.iaload, 1) := by decide +kernel
theorem d_Mo_costOf_84 : decode c_Mo_costOf 84 = .ok (.iload_n 2, 1) := by decide +kernel
theorem d_Mo_costOf_85 : decode c_Mo_costOf 85 = .ok (.if_icmp .ne 20, 3) := by decide +kernel
theorem d_Mo_costOf_88 : decode c_Mo_costOf 88 = .ok (.aload_n 0, 1) := by decide +kernel
theorem d_Mo_costOf_89 : decode c_Mo_costOf 89 = .ok (.getfield 43, 3) := by decide +kernel
theorem d_Mo_costOf_92 : decode c_Mo_costOf 92 = .ok (.bipush 10, 2) := by decide +kernel
theorem d_Mo_costOf_94 : decode c_Mo_costOf 94 = .ok (.iload 5, 2) := by decide +kernel
theorem d_Mo_costOf_96 : decode c_Mo_costOf 96 = .ok (.imul, 1) := by decide +kernel
theorem d_Mo_costOf_97 : decode c_Mo_costOf 97 = .ok (.iload 6, 2) := by decide +kernel
theorem d_Mo_costOf_99 : decode c_Mo_costOf 99 = .ok (.iadd, 1) := by decide +kernel
theorem d_Mo_costOf_100 : decode c_Mo_costOf 100 = .ok (.iaload, 1) := by decide +kernel
theorem d_Mo_costOf_101 : decode c_Mo_costOf 101 = .ok (.i2l, 1) := by decide +kernel
theorem d_Mo_costOf_102 : decode c_Mo_costOf 102 = .ok (.goto 4, 3) := by decide +kernel
theorem d_Mo_costOf_105 : decode c_Mo_costOf 105 = .ok (.lconst 0, 1) := by decide +kernel
theorem d_Mo_costOf_106 : decode c_Mo_costOf 106 = .ok (.lsub, 1) := by decide +kernel
theorem d_Mo_costOf_107 : decode c_Mo_costOf 107 = .ok (.lstore_n 3, 1) := by decide +kernel
theorem d_Mo_costOf_108 : decode c_Mo_costOf 108 = .ok (.iinc 6 1, 3) := by decide +kernel
theorem d_Mo_costOf_111 : decode c_Mo_costOf 111 = .ok (.goto (-51), 3) := by decide +kernel
theorem d_Mo_costOf_114 : decode c_Mo_costOf 114 = .ok (.iinc 5 1, 3) := by decide +kernel
theorem d_Mo_costOf_117 : decode c_Mo_costOf 117 = .ok (.goto (-112), 3) := by decide +kernel
theorem d_Mo_costOf_120 : decode c_Mo_costOf 120 = .ok (.lload_n 3, 1) := by decide +kernel
theorem d_Mo_costOf_121 : decode c_Mo_costOf 121 = .ok (.lconst 0, 1) := by decide +kernel
theorem d_Mo_costOf_122 : decode c_Mo_costOf 122 = .ok (.lcmp, 1) := by decide +kernel
theorem d_Mo_costOf_123 : decode c_Mo_costOf 123 = .ok (.ifCond .ge 7, 3) := by decide +kernel
theorem d_Mo_costOf_126 : decode c_Mo_costOf 126 = .ok (.lconst 0, 1) := by decide +kernel
theorem d_Mo_costOf_127 : decode c_Mo_costOf 127 = .ok (.goto 4, 3) := by decide +kernel
theorem d_Mo_costOf_130 : decode c_Mo_costOf 130 = .ok (.lload_n 3, 1) := by decide +kernel
theorem d_Mo_costOf_131 : decode c_Mo_costOf 131 = .ok (.lreturn, 1) := by decide +kernel
theorem d_Mo_lackOf_0 : decode c_Mo_lackOf 0 = .ok (.lconst 0, 1) := by decide +kernel
theorem d_Mo_lackOf_1 : decode c_Mo_lackOf 1 = .ok (.lstore_n 2, 1) := by decide +kernel
theorem d_Mo_lackOf_2 : decode c_Mo_lackOf 2 = .ok (.aload_n 0, 1) := by decide +kernel
theorem d_Mo_lackOf_3 : decode c_Mo_lackOf 3 = .ok (.lconst 0, 1) := by decide +kernel
theorem d_Mo_lackOf_4 : decode c_Mo_lackOf 4 = .ok (.putfield 130, 3) := by decide +kernel
theorem d_Mo_lackOf_7 : decode c_Mo_lackOf 7 = .ok (.iconst 0, 1) := by decide +kernel
theorem d_Mo_lackOf_8 : decode c_Mo_lackOf 8 = .ok (.istore 4, 2) := by decide +kernel
theorem d_Mo_lackOf_10 : decode c_Mo_lackOf 10 = .ok (.iload 4, 2) := by decide +kernel
theorem d_Mo_lackOf_12 : decode c_Mo_lackOf 12 = .ok (.aload_n 0, 1) := by decide +kernel
theorem d_Mo_lackOf_13 : decode c_Mo_lackOf 13 = .ok (.getfield 57, 3) := by decide +kernel
theorem d_Mo_lackOf_16 : decode c_Mo_lackOf 16 = .ok (.if_icmp .ge 61, 3) := by decide +kernel
theorem d_Mo_lackOf_19 : decode c_Mo_lackOf 19 = .ok (.aload_n 0, 1) := by decide +kernel
theorem d_Mo_lackOf_20 : decode c_Mo_lackOf 20 = .ok (.iload_n 1, 1) := by decide +kernel
theorem d_Mo_lackOf_21 : decode c_Mo_lackOf 21 = .ok (.iload 4, 2) := by decide +kernel
theorem d_Mo_lackOf_23 : decode c_Mo_lackOf 23 = .ok (.invokevirtual 134, 3) := by decide +kernel
theorem d_Mo_lackOf_26 : decode c_Mo_lackOf 26 = .ok (.lstore 5, 2) := by decide +kernel
theorem d_Mo_lackOf_28 : decode c_Mo_lackOf 28 = .ok (.aload_n 0, 1) := by decide +kernel
theorem d_Mo_lackOf_29 : decode c_Mo_lackOf 29 = .ok (.dup, 1) := by decide +kernel
theorem d_Mo_lackOf_30 : decode c_Mo_lackOf 30 = .ok (.getfield 130, 3) := by decide +kernel
theorem d_Mo_lackOf_33 : decode c_Mo_lackOf 33 = .ok (.lload 5, 2) := by decide +kernel
theorem d_Mo_lackOf_35 : decode c_Mo_lackOf 35 = .ok (.ladd, 1) := by decide +kernel
theorem d_Mo_lackOf_36 : decode c_Mo_lackOf 36 = .ok (.putfield 130, 3) := by decide +kernel
theorem d_Mo_lackOf_39 : decode c_Mo_lackOf 39 = .ok (.lload_n 2, 1) := by decide +kernel
theorem d_Mo_lackOf_40 : decode c_Mo_lackOf 40 = .ok (.lload 5, 2) := by decide +kernel
theorem d_Mo_lackOf_42 : decode c_Mo_lackOf 42 = .ok (.aload_n 0, 1) := by decide +kernel
theorem d_Mo_lackOf_43 : decode c_Mo_lackOf 43 = .ok (.getfield 13, 3) := by decide +kernel
theorem d_Mo_lackOf_46 : decode c_Mo_lackOf 46 = .ok (.iload 4, 2) := by decide +kernel
theorem d_Mo_lackOf_48 : decode c_Mo_lackOf 48 = .ok (.iaload, 1) := by decide +kernel
theorem d_Mo_lackOf_49 : decode c_Mo_lackOf 49 = .ok (.i2l, 1) := by decide +kernel
theorem d_Mo_lackOf_50 : decode c_Mo_lackOf 50 = .ok (.lcmp, 1) := by decide +kernel
theorem d_Mo_lackOf_51 : decode c_Mo_lackOf 51 = .ok (.ifCond .le 17, 3) := by decide +kernel
theorem d_Mo_lackOf_54 : decode c_Mo_lackOf 54 = .ok (.lload 5, 2) := by decide +kernel
theorem d_Mo_lackOf_56 : decode c_Mo_lackOf 56 = .ok (.aload_n 0, 1) := by decide +kernel
theorem d_Mo_lackOf_57 : decode c_Mo_lackOf 57 = .ok (.getfield 13, 3) := by decide +kernel
theorem d_Mo_lackOf_60 : decode c_Mo_lackOf 60 = .ok (.iload 4, 2) := by decide +kernel
theorem d_Mo_lackOf_62 : decode c_Mo_lackOf 62 = .ok (.iaload, 1) := by decide +kernel
theorem d_Mo_lackOf_63 : decode c_Mo_lackOf 63 = .ok (.i2l, 1) := by decide +kernel
theorem d_Mo_lackOf_64 : decode c_Mo_lackOf 64 = .ok (.lsub, 1) := by decide +kernel
theorem d_Mo_lackOf_65 : decode c_Mo_lackOf 65 = .ok (.goto 4, 3) := by decide +kernel
theorem d_Mo_lackOf_68 : decode c_Mo_lackOf 68 = .ok (.lconst 0, 1) := by decide +kernel
theorem d_Mo_lackOf_69 : decode c_Mo_lackOf 69 = .ok (.ladd, 1) := by decide +kernel
theorem d_Mo_lackOf_70 : decode c_Mo_lackOf 70 = .ok (.lstore_n 2, 1) := by decide +kernel
theorem d_Mo_lackOf_71 : decode c_Mo_lackOf 71 = .ok (.iinc 4 1, 3) := by decide +kernel
theorem d_Mo_lackOf_74 : decode c_Mo_lackOf 74 = .ok (.goto (-64), 3) := by decide +kernel
theorem d_Mo_lackOf_77 : decode c_Mo_lackOf 77 = .ok (.lload_n 2, 1) := by decide +kernel
theorem d_Mo_lackOf_78 : decode c_Mo_lackOf 78 = .ok (.lreturn, 1) := by decide +kernel
theorem d_Mo_choose_0 : decode c_Mo_choose 0 = .ok (.aload_n 0, 1) := by decide +kernel
theorem d_Mo_choose_1 : decode c_Mo_choose 1 = .ok (.iconst 0, 1) := by decide +kernel
theorem d_Mo_choose_2 : decode c_Mo_choose 2 = .ok (.putfield 61, 3) := by decide +kernel
theorem d_Mo_choose_5 : decode c_Mo_choose 5 = .ok (.iconst 0, 1) := by decide +kernel
theorem d_Mo_choose_6 : decode c_Mo_choose 6 = .ok (.istore_n 1, 1) := by decide +kernel
theorem d_Mo_choose_7 : decode c_Mo_choose 7 = .ok (.iconst 0, 1) := by decide +kernel
theorem d_Mo_choose_8 : decode c_Mo_choose 8 = .ok (.istore_n 2, 1) := by decide +kernel
theorem d_Mo_choose_9 : decode c_Mo_choose 9 = .ok (.lconst 0, 1) := by decide +kernel
theorem d_Mo_choose_10 : decode c_Mo_choose 10 = .ok (.lstore_n 3, 1) := by decide +kernel
theorem d_Mo_choose_11 : decode c_Mo_choose 11 = .ok (.iconst 1, 1) := by decide +kernel
theorem d_Mo_choose_12 : decode c_Mo_choose 12 = .ok (.istore 5, 2) := by decide +kernel
theorem d_Mo_choose_14 : decode c_Mo_choose 14 = .ok (.iload 5, 2) := by decide +kernel
theorem d_Mo_choose_16 : decode c_Mo_choose 16 = .ok (.iconst 1, 1) := by decide +kernel
theorem d_Mo_choose_17 : decode c_Mo_choose 17 = .ok (.aload_n 0, 1) := by decide +kernel
theorem d_Mo_choose_18 : decode c_Mo_choose 18 = .ok (.getfield 75, 3) := by decide +kernel
theorem d_Mo_choose_21 : decode c_Mo_choose 21 = .ok (.ishl, 1) := by decide +kernel
theorem d_Mo_choose_22 : decode c_Mo_choose 22 = .ok (.if_icmp .ge 108, 3) := by decide +kernel
theorem d_Mo_choose_25 : decode c_Mo_choose 25 = .ok (.iconst 0, 1) := by decide +kernel
theorem d_Mo_choose_26 : decode c_Mo_choose 26 = .ok (.istore 6, 2) := by decide +kernel
theorem d_Mo_choose_28 : decode c_Mo_choose 28 = .ok (.iconst 0, 1) := by decide +kernel
theorem d_Mo_choose_29 : decode c_Mo_choose 29 = .ok (.istore 7, 2) := by decide +kernel
theorem d_Mo_choose_31 : decode c_Mo_choose 31 = .ok (.iload 7, 2) := by decide +kernel
theorem d_Mo_choose_33 : decode c_Mo_choose 33 = .ok (.aload_n 0, 1) := by decide +kernel
theorem d_Mo_choose_34 : decode c_Mo_choose 34 = .ok (.getfield 75, 3) := by decide +kernel
theorem d_Mo_choose_37 : decode c_Mo_choose 37 = .ok (.if_icmp .ge 35, 3) := by decide +kernel
theorem d_Mo_choose_40 : decode c_Mo_choose 40 = .ok (.iload 6, 2) := by decide +kernel
theorem d_Mo_choose_42 : decode c_Mo_choose 42 = .ok (.iload 5, 2) := by decide +kernel
theorem d_Mo_choose_44 : decode c_Mo_choose 44 = .ok (.iload 7, 2) := by decide +kernel
theorem d_Mo_choose_46 : decode c_Mo_choose 46 = .ok (.invokestatic 127, 3) := by decide +kernel
theorem d_Mo_choose_49 : decode c_Mo_choose 49 = .ok (.ifCond .eq 13, 3) := by decide +kernel
theorem d_Mo_choose_52 : decode c_Mo_choose 52 = .ok (.aload_n 0, 1) := by decide +kernel
theorem d_Mo_choose_53 : decode c_Mo_choose 53 = .ok (.getfield 34, 3) := by decide +kernel
theorem d_Mo_choose_56 : decode c_Mo_choose 56 = .ok (.iload 7, 2) := by decide +kernel
theorem d_Mo_choose_58 : decode c_Mo_choose 58 = .ok (.iaload, 1) := by decide +kernel
theorem d_Mo_choose_59 : decode c_Mo_choose 59 = .ok (.goto 4, 3) := by decide +kernel
theorem d_Mo_choose_62 : decode c_Mo_choose 62 = .ok (.iconst 0, 1) := by decide +kernel
theorem d_Mo_choose_63 : decode c_Mo_choose 63 = .ok (.iadd, 1) := by decide +kernel
theorem d_Mo_choose_64 : decode c_Mo_choose 64 = .ok (.istore 6, 2) := by decide +kernel
theorem d_Mo_choose_66 : decode c_Mo_choose 66 = .ok (.iinc 7 1, 3) := by decide +kernel
theorem d_Mo_choose_69 : decode c_Mo_choose 69 = .ok (.goto (-38), 3) := by decide +kernel
theorem d_Mo_choose_72 : decode c_Mo_choose 72 = .ok (.iload 6, 2) := by decide +kernel
theorem d_Mo_choose_74 : decode c_Mo_choose 74 = .ok (.iload_n 2, 1) := by decide +kernel
theorem d_Mo_choose_75 : decode c_Mo_choose 75 = .ok (.if_icmp .lt 49, 3) := by decide +kernel
theorem d_Mo_choose_78 : decode c_Mo_choose 78 = .ok (.aload_n 0, 1) := by decide +kernel
theorem d_Mo_choose_79 : decode c_Mo_choose 79 = .ok (.iload 5, 2) := by decide +kernel
theorem d_Mo_choose_81 : decode c_Mo_choose 81 = .ok (.invokevirtual 137, 3) := by decide +kernel
theorem d_Mo_choose_84 : decode c_Mo_choose 84 = .ok (.ifCond .eq 40, 3) := by decide +kernel
theorem d_Mo_choose_87 : decode c_Mo_choose 87 = .ok (.aload_n 0, 1) := by decide +kernel
theorem d_Mo_choose_88 : decode c_Mo_choose 88 = .ok (.iload 5, 2) := by decide +kernel
theorem d_Mo_choose_90 : decode c_Mo_choose 90 = .ok (.invokevirtual 140, 3) := by decide +kernel
theorem d_Mo_choose_93 : decode c_Mo_choose 93 = .ok (.lconst 0, 1) := by decide +kernel
theorem d_Mo_choose_94 : decode c_Mo_choose 94 = .ok (.lcmp, 1) := by decide +kernel
theorem d_Mo_choose_95 : decode c_Mo_choose 95 = .ok (.ifCond .ne 29, 3) := by decide +kernel
theorem d_Mo_choose_98 : decode c_Mo_choose 98 = .ok (.iload 6, 2) := by decide +kernel
theorem d_Mo_choose_100 : decode c_Mo_choose 100 = .ok (.iload_n 2, 1) := by decide +kernel
theorem d_Mo_choose_101 : decode c_Mo_choose 101 = .ok (.if_icmp .gt 12, 3) := by decide +kernel
theorem d_Mo_choose_104 : decode c_Mo_choose 104 = .ok (.aload_n 0, 1) := by decide +kernel
theorem d_Mo_choose_105 : decode c_Mo_choose 105 = .ok (.getfield 130, 3) := by decide +kernel
theorem d_Mo_choose_108 : decode c_Mo_choose 108 = .ok (.lload_n 3, 1) := by decide +kernel
theorem d_Mo_choose_109 : decode c_Mo_choose 109 = .ok (.lcmp, 1) := by decide +kernel
theorem d_Mo_choose_110 : decode c_Mo_choose 110 = .ok (.ifCond .ge 14, 3) := by decide +kernel
theorem d_Mo_choose_113 : decode c_Mo_choose 113 = .ok (.iload 5, 2) := by decide +kernel
theorem d_Mo_choose_115 : decode c_Mo_choose 115 = .ok (.istore_n 1, 1) := by decide +kernel
theorem d_Mo_choose_116 : decode c_Mo_choose 116 = .ok (.iload 6, 2) := by decide +kernel
theorem d_Mo_choose_118 : decode c_Mo_choose 118 = .ok (.istore_n 2, 1) := by decide +kernel
theorem d_Mo_choose_119 : decode c_Mo_choose 119 = .ok (.aload_n 0, 1) := by decide +kernel
theorem d_Mo_choose_120 : decode c_Mo_choose 120 = .ok (.getfield 130, 3) := by decide +kernel
theorem d_Mo_choose_123 : decode c_Mo_choose 123 = .ok (.lstore_n 3, 1) := by decide +kernel
theorem d_Mo_choose_124 : decode c_Mo_choose 124 = .ok (.iinc 5 1, 3) := by decide +kernel
theorem d_Mo_choose_127 : decode c_Mo_choose 127 = .ok (.goto (-113), 3) := by decide +kernel
theorem d_Mo_choose_130 : decode c_Mo_choose 130 = .ok (.aload_n 0, 1) := by decide +kernel
theorem d_Mo_choose_131 : decode c_Mo_choose 131 = .ok (.iload_n 1, 1) := by decide +kernel
theorem d_Mo_choose_132 : decode c_Mo_choose 132 = .ok (.putfield 106, 3) := by decide +kernel
theorem d_Mo_choose_135 : decode c_Mo_choose 135 = .ok (.iload_n 2, 1) := by decide +kernel
theorem d_Mo_choose_136 : decode c_Mo_choose 136 = .ok (.ireturn, 1) := by decide +kernel
theorem d_Mo_chosen_0 : decode c_Mo_chosen 0 = .ok (.aload_n 0, 1) := by decide +kernel
theorem d_Mo_chosen_1 : decode c_Mo_chosen 1 = .ok (.aload_n 0, 1) := by decide +kernel
theorem d_Mo_chosen_2 : decode c_Mo_chosen 2 = .ok (.iload_n 1, 1) := by decide +kernel
theorem d_Mo_chosen_3 : decode c_Mo_chosen 3 = .ok (.invokevirtual 121, 3) := by decide +kernel
theorem d_Mo_chosen_6 : decode c_Mo_chosen 6 = .ok (.ifCond .eq 7, 3) := by decide +kernel
theorem d_Mo_chosen_9 : decode c_Mo_chosen 9 = .ok (.iconst 0, 1) := by decide +kernel
theorem d_Mo_chosen_10 : decode c_Mo_chosen 10 = .ok (.goto 4, 3) := by decide +kernel
theorem d_Mo_chosen_13 : decode c_Mo_chosen 13 = .ok (.iconst 1, 1) := by decide +kernel
theorem d_Mo_chosen_14 : decode c_Mo_chosen 14 = .ok (.invokevirtual 85, 3) := by decide +kernel
theorem d_Mo_chosen_17 : decode c_Mo_chosen 17 = .ok (.ifCond .ne 18, 3) := by decide +kernel
theorem d_Mo_chosen_20 : decode c_Mo_chosen 20 = .ok (.aload_n 0, 1) := by decide +kernel
theorem d_Mo_chosen_21 : decode c_Mo_chosen 21 = .ok (.getfield 106, 3) := by decide +kernel
theorem d_Mo_chosen_24 : decode c_Mo_chosen 24 = .ok (.iload_n 1, 1) := by decide +kernel
theorem d_Mo_chosen_25 : decode c_Mo_chosen 25 = .ok (.invokestatic 127, 3) := by decide +kernel
theorem d_Mo_chosen_28 : decode c_Mo_chosen 28 = .ok (.ifCond .eq 7, 3) := by decide +kernel
theorem d_Mo_chosen_31 : decode c_Mo_chosen 31 = .ok (.iconst 1, 1) := by decide +kernel
theorem d_Mo_chosen_32 : decode c_Mo_chosen 32 = .ok (.goto 4, 3) := by decide +kernel
theorem d_Mo_chosen_35 : decode c_Mo_chosen 35 = .ok (.iconst 0, 1) := by decide +kernel
theorem d_Mo_chosen_36 : decode c_Mo_chosen 36 = .ok (.ireturn, 1) := by decide +kernel
theorem d_Mo_costs_0 : decode c_Mo_costs 0 = .ok (.aload_n 0, 1) := by decide +kernel
theorem d_Mo_costs_1 : decode c_Mo_costs 1 = .ok (.aload_n 0, 1) := by decide +kernel
theorem d_Mo_costs_2 : decode c_Mo_costs 2 = .ok (.iload_n 1, 1) := by decide +kernel
theorem d_Mo_costs_3 : decode c_Mo_costs 3 = .ok (.invokevirtual 78, 3) := by decide +kernel
theorem d_Mo_costs_6 : decode c_Mo_costs 6 = .ok (.ifCond .eq 7, 3) := by decide +kernel
theorem d_Mo_costs_9 : decode c_Mo_costs 9 = .ok (.iconst 0, 1) := by decide +kernel
theorem d_Mo_costs_10 : decode c_Mo_costs 10 = .ok (.goto 4, 3) := by decide +kernel
theorem d_Mo_costs_13 : decode c_Mo_costs 13 = .ok (.iconst 1, 1) := by decide +kernel
theorem d_Mo_costs_14 : decode c_Mo_costs 14 = .ok (.invokevirtual 85, 3) := by decide +kernel
theorem d_Mo_costs_17 : decode c_Mo_costs 17 = .ok (.ifCond .eq 7, 3) := by decide +kernel
theorem d_Mo_costs_20 : decode c_Mo_costs 20 = .ok (.iconst 0, 1) := by decide +kernel
theorem d_Mo_costs_21 : decode c_Mo_costs 21 = .ok (.goto 13, 3) := by decide +kernel
theorem d_Mo_costs_24 : decode c_Mo_costs 24 = .ok (.aload_n 0, 1) := by decide +kernel
theorem d_Mo_costs_25 : decode c_Mo_costs 25 = .ok (.aload_n 0, 1) := by decide +kernel
theorem d_Mo_costs_26 : decode c_Mo_costs 26 = .ok (.getfield 106, 3) := by decide +kernel
theorem d_Mo_costs_29 : decode c_Mo_costs 29 = .ok (.iload_n 1, 1) := by decide +kernel
theorem d_Mo_costs_30 : decode c_Mo_costs 30 = .ok (.invokevirtual 134, 3) := by decide +kernel
theorem d_Mo_costs_33 : decode c_Mo_costs 33 = .ok (.l2i, 1) := by decide +kernel
theorem d_Mo_costs_34 : decode c_Mo_costs 34 = .ok (.ireturn, 1) := by decide +kernel
theorem d_Mo_lacks_0 : decode c_Mo_lacks 0 = .ok (.aload_n 0, 1) := by decide +kernel
theorem d_Mo_lacks_1 : decode c_Mo_lacks 1 = .ok (.iconst 0, 1) := by decide +kernel
theorem d_Mo_lacks_2 : decode c_Mo_lacks 2 = .ok (.putfield 61, 3) := by decide +kernel
theorem d_Mo_lacks_5 : decode c_Mo_lacks 5 = .ok (.iload_n 1, 1) := by decide +kernel
theorem d_Mo_lacks_6 : decode c_Mo_lacks 6 = .ok (.iconst 1, 1) := by decide +kernel
theorem d_Mo_lacks_7 : decode c_Mo_lacks 7 = .ok (.aload_n 0, 1) := by decide +kernel
theorem d_Mo_lacks_8 : decode c_Mo_lacks 8 = .ok (.getfield 75, 3) := by decide +kernel
theorem d_Mo_lacks_11 : decode c_Mo_lacks 11 = .ok (.ishl, 1) := by decide +kernel
theorem d_Mo_lacks_12 : decode c_Mo_lacks 12 = .ok (.iconst 1, 1) := by decide +kernel
theorem d_Mo_lacks_13 : decode c_Mo_lacks 13 = .ok (.isub, 1) := by decide +kernel
theorem d_Mo_lacks_14 : decode c_Mo_lacks 14 = .ok (.iand, 1) := by decide +kernel
theorem d_Mo_lacks_15 : decode c_Mo_lacks 15 = .ok (.istore_n 2, 1) := by decide +kernel
theorem d_Mo_lacks_16 : decode c_Mo_lacks 16 = .ok (.aload_n 0, 1) := by decide +kernel
theorem d_Mo_lacks_17 : decode c_Mo_lacks 17 = .ok (.iload_n 2, 1) := by decide +kernel
theorem d_Mo_lacks_18 : decode c_Mo_lacks 18 = .ok (.invokevirtual 137, 3) := by decide +kernel
theorem d_Mo_lacks_21 : decode c_Mo_lacks 21 = .ok (.ifCond .eq 12, 3) := by decide +kernel
theorem d_Mo_lacks_24 : decode c_Mo_lacks 24 = .ok (.aload_n 0, 1) := by decide +kernel
theorem d_Mo_lacks_25 : decode c_Mo_lacks 25 = .ok (.iload_n 2, 1) := by decide +kernel
theorem d_Mo_lacks_26 : decode c_Mo_lacks 26 = .ok (.invokevirtual 140, 3) := by decide +kernel
theorem d_Mo_lacks_29 : decode c_Mo_lacks 29 = .ok (.l2i, 1) := by decide +kernel
theorem d_Mo_lacks_30 : decode c_Mo_lacks 30 = .ok (.goto 4, 3) := by decide +kernel
theorem d_Mo_lacks_33 : decode c_Mo_lacks 33 = .ok (.iconst (-1), 1) := by decide +kernel
theorem d_Mo_lacks_34 : decode c_Mo_lacks 34 = .ok (.ireturn, 1) := by decide +kernel
theorem d_Mo_money_0 : decode c_Mo_money 0 = .ok (.aload_n 0, 1) := by decide +kernel
theorem d_Mo_money_1 : decode c_Mo_money 1 = .ok (.iload_n 1, 1) := by decide +kernel
theorem d_Mo_money_2 : decode c_Mo_money 2 = .ok (.i2l, 1) := by decide +kernel
theorem d_Mo_money_3 : decode c_Mo_money 3 = .ok (.lconst 0, 1) := by decide +kernel
theorem d_Mo_money_4 : decode c_Mo_money 4 = .ok (.ldc2_w 88, 3) := by decide +kernel
theorem d_Mo_money_7 : decode c_Mo_money 7 = .ok (.invokestatic 64, 3) := by decide +kernel
theorem d_Mo_money_10 : decode c_Mo_money 10 = .ok (.ifCond .eq 19, 3) := by decide +kernel
theorem d_Mo_money_13 : decode c_Mo_money 13 = .ok (.iload_n 2, 1) := by decide +kernel
theorem d_Mo_money_14 : decode c_Mo_money 14 = .ok (.i2l, 1) := by decide +kernel
theorem d_Mo_money_15 : decode c_Mo_money 15 = .ok (.lconst 0, 1) := by decide +kernel
theorem d_Mo_money_16 : decode c_Mo_money 16 = .ok (.ldc2_w 88, 3) := by decide +kernel
theorem d_Mo_money_19 : decode c_Mo_money 19 = .ok (.invokestatic 64, 3) := by decide +kernel
theorem d_Mo_money_22 : decode c_Mo_money 22 = .ok (.ifCond .eq 7, 3) := by decide +kernel
theorem d_Mo_money_25 : decode c_Mo_money 25 = .ok (.iconst 0, 1) := by decide +kernel
theorem d_Mo_money_26 : decode c_Mo_money 26 = .ok (.goto 4, 3) := by decide +kernel
theorem d_Mo_money_29 : decode c_Mo_money 29 = .ok (.iconst 1, 1) := by decide +kernel
theorem d_Mo_money_30 : decode c_Mo_money 30 = .ok (.invokevirtual 85, 3) := by decide +kernel
theorem d_Mo_money_33 : decode c_Mo_money 33 = .ok (.ifCond .ne 15, 3) := by decide +kernel
theorem d_Mo_money_36 : decode c_Mo_money 36 = .ok (.aload_n 0, 1) := by decide +kernel
theorem d_Mo_money_37 : decode c_Mo_money 37 = .ok (.iload_n 1, 1) := by decide +kernel
theorem d_Mo_money_38 : decode c_Mo_money 38 = .ok (.i2l, 1) := by decide +kernel
theorem d_Mo_money_39 : decode c_Mo_money 39 = .ok (.putfield 144, 3) := by decide +kernel
theorem d_Mo_money_42 : decode c_Mo_money 42 = .ok (.aload_n 0, 1) := by decide +kernel
theorem d_Mo_money_43 : decode c_Mo_money 43 = .ok (.iload_n 2, 1) := by decide +kernel
theorem d_Mo_money_44 : decode c_Mo_money 44 = .ok (.i2l, 1) := by decide +kernel
theorem d_Mo_money_45 : decode c_Mo_money 45 = .ok (.putfield 147, 3) := by decide +kernel
theorem d_Mo_money_48 : decode c_Mo_money 48 = .ok (.return_, 1) := by decide +kernel
theorem d_Mo_reserveOf_0 : decode c_Mo_reserveOf 0 = .ok (.aload_n 0, 1) := by decide +kernel
theorem d_Mo_reserveOf_1 : decode c_Mo_reserveOf 1 = .ok (.getfield 144, 3) := by decide +kernel
theorem d_Mo_reserveOf_4 : decode c_Mo_reserveOf 4 = .ok (.lstore_n 2, 1) := by decide +kernel
theorem d_Mo_reserveOf_5 : decode c_Mo_reserveOf 5 = .ok (.iconst 0, 1) := by decide +kernel
theorem d_Mo_reserveOf_6 : decode c_Mo_reserveOf 6 = .ok (.istore 4, 2) := by decide +kernel
theorem d_Mo_reserveOf_8 : decode c_Mo_reserveOf 8 = .ok (.iload 4, 2) := by decide +kernel
theorem d_Mo_reserveOf_10 : decode c_Mo_reserveOf 10 = .ok (.iload_n 1, 1) := by decide +kernel
theorem d_Mo_reserveOf_11 : decode c_Mo_reserveOf 11 = .ok (.if_icmp .gt 56, 3) := by decide +kernel
theorem d_Mo_reserveOf_14 : decode c_Mo_reserveOf 14 = .ok (.lload_n 2, 1) := by decide +kernel
theorem d_Mo_reserveOf_15 : decode c_Mo_reserveOf 15 = .ok (.aload_n 0, 1) := by decide +kernel
theorem d_Mo_reserveOf_16 : decode c_Mo_reserveOf 16 = .ok (.getfield 147, 3) := by decide +kernel
theorem d_Mo_reserveOf_19 : decode c_Mo_reserveOf 19 = .ok (.aload_n 0, 1) := by decide +kernel
theorem d_Mo_reserveOf_20 : decode c_Mo_reserveOf 20 = .ok (.aload_n 0, 1) := by decide +kernel
theorem d_Mo_reserveOf_21 : decode c_Mo_reserveOf 21 = .ok (.getfield 106, 3) := by decide +kernel
theorem d_Mo_reserveOf_24 : decode c_Mo_reserveOf 24 = .ok (.iload 4, 2) := by decide +kernel
theorem d_Mo_reserveOf_26 : decode c_Mo_reserveOf 26 = .ok (.invokevirtual 134, 3) := by decide +kernel
theorem d_Mo_reserveOf_29 : decode c_Mo_reserveOf 29 = .ok (.lsub, 1) := by decide +kernel
theorem d_Mo_reserveOf_30 : decode c_Mo_reserveOf 30 = .ok (.ladd, 1) := by decide +kernel
theorem d_Mo_reserveOf_31 : decode c_Mo_reserveOf 31 = .ok (.lstore_n 2, 1) := by decide +kernel
theorem d_Mo_reserveOf_32 : decode c_Mo_reserveOf 32 = .ok (.iconst 0, 1) := by decide +kernel
theorem d_Mo_reserveOf_33 : decode c_Mo_reserveOf 33 = .ok (.istore 5, 2) := by decide +kernel
theorem d_Mo_reserveOf_35 : decode c_Mo_reserveOf 35 = .ok (.iload 5, 2) := by decide +kernel
theorem d_Mo_reserveOf_37 : decode c_Mo_reserveOf 37 = .ok (.aload_n 0, 1) := by decide +kernel
theorem d_Mo_reserveOf_38 : decode c_Mo_reserveOf 38 = .ok (.getfield 68, 3) := by decide +kernel
theorem d_Mo_reserveOf_41 : decode c_Mo_reserveOf 41 = .ok (.if_icmp .ge 20, 3) := by decide +kernel
theorem d_Mo_reserveOf_44 : decode c_Mo_reserveOf 44 = .ok (.lload_n 2, 1) := by decide +kernel
theorem d_Mo_reserveOf_45 : decode c_Mo_reserveOf 45 = .ok (.aload_n 0, 1) := by decide +kernel
theorem d_Mo_reserveOf_46 : decode c_Mo_reserveOf 46 = .ok (.iload 5, 2) := by decide +kernel
theorem d_Mo_reserveOf_48 : decode c_Mo_reserveOf 48 = .ok (.iload 4, 2) := by decide +kernel
theorem d_Mo_reserveOf_50 : decode c_Mo_reserveOf 50 = .ok (.invokevirtual 116, 3) := by decide +kernel
theorem d_Mo_reserveOf_53 : decode c_Mo_reserveOf 53 = .ok (.lsub, 1) := by decide +kernel
theorem d_Mo_reserveOf_54 : decode c_Mo_reserveOf 54 = .ok (.lstore_n 2, 1) := by decide +kernel
theorem d_Mo_reserveOf_55 : decode c_Mo_reserveOf 55 = .ok (.iinc 5 1, 3) := by decide +kernel
theorem d_Mo_reserveOf_58 : decode c_Mo_reserveOf 58 = .ok (.goto (-23), 3) := by decide +kernel
theorem d_Mo_reserveOf_61 : decode c_Mo_reserveOf 61 = .ok (.iinc 4 1, 3) := by decide +kernel
theorem d_Mo_reserveOf_64 : decode c_Mo_reserveOf 64 = .ok (.goto (-56), 3) := by decide +kernel
theorem d_Mo_reserveOf_67 : decode c_Mo_reserveOf 67 = .ok (.lload_n 2, 1) := by decide +kernel
theorem d_Mo_reserveOf_68 : decode c_Mo_reserveOf 68 = .ok (.lreturn, 1) := by decide +kernel
theorem d_Mo_reserve_0 : decode c_Mo_reserve 0 = .ok (.aload_n 0, 1) := by decide +kernel
theorem d_Mo_reserve_1 : decode c_Mo_reserve 1 = .ok (.aload_n 0, 1) := by decide +kernel
theorem d_Mo_reserve_2 : decode c_Mo_reserve 2 = .ok (.iload_n 1, 1) := by decide +kernel
theorem d_Mo_reserve_3 : decode c_Mo_reserve 3 = .ok (.invokevirtual 78, 3) := by decide +kernel
theorem d_Mo_reserve_6 : decode c_Mo_reserve 6 = .ok (.ifCond .eq 7, 3) := by decide +kernel
theorem d_Mo_reserve_9 : decode c_Mo_reserve 9 = .ok (.iconst 0, 1) := by decide +kernel
theorem d_Mo_reserve_10 : decode c_Mo_reserve 10 = .ok (.goto 4, 3) := by decide +kernel
theorem d_Mo_reserve_13 : decode c_Mo_reserve 13 = .ok (.iconst 1, 1) := by decide +kernel
theorem d_Mo_reserve_14 : decode c_Mo_reserve 14 = .ok (.invokevirtual 85, 3) := by decide +kernel
theorem d_Mo_reserve_17 : decode c_Mo_reserve 17 = .ok (.ifCond .eq 7, 3) := by decide +kernel
theorem d_Mo_reserve_20 : decode c_Mo_reserve 20 = .ok (.lconst 0, 1) := by decide +kernel
theorem d_Mo_reserve_21 : decode c_Mo_reserve 21 = .ok (.goto 8, 3) := by decide +kernel
theorem d_Mo_reserve_24 : decode c_Mo_reserve 24 = .ok (.aload_n 0, 1) := by decide +kernel
theorem d_Mo_reserve_25 : decode c_Mo_reserve 25 = .ok (.iload_n 1, 1) := by decide +kernel
theorem d_Mo_reserve_26 : decode c_Mo_reserve 26 = .ok (.invokevirtual 150, 3) := by decide +kernel
theorem d_Mo_reserve_29 : decode c_Mo_reserve 29 = .ok (.lreturn, 1) := by decide +kernel
theorem d_Mo_shortIn_0 : decode c_Mo_shortIn 0 = .ok (.aload_n 0, 1) := by decide +kernel
theorem d_Mo_shortIn_1 : decode c_Mo_shortIn 1 = .ok (.iconst 0, 1) := by decide +kernel
theorem d_Mo_shortIn_2 : decode c_Mo_shortIn 2 = .ok (.putfield 61, 3) := by decide +kernel
theorem d_Mo_shortIn_5 : decode c_Mo_shortIn 5 = .ok (.iconst 0, 1) := by decide +kernel
theorem d_Mo_shortIn_6 : decode c_Mo_shortIn 6 = .ok (.istore_n 1, 1) := by decide +kernel
theorem d_Mo_shortIn_7 : decode c_Mo_shortIn 7 = .ok (.iload_n 1, 1) := by decide +kernel
theorem d_Mo_shortIn_8 : decode c_Mo_shortIn 8 = .ok (.aload_n 0, 1) := by decide +kernel
theorem d_Mo_shortIn_9 : decode c_Mo_shortIn 9 = .ok (.getfield 57, 3) := by decide +kernel
theorem d_Mo_shortIn_12 : decode c_Mo_shortIn 12 = .ok (.if_icmp .ge 21, 3) := by decide +kernel
theorem d_Mo_shortIn_15 : decode c_Mo_shortIn 15 = .ok (.aload_n 0, 1) := by decide +kernel
theorem d_Mo_shortIn_16 : decode c_Mo_shortIn 16 = .ok (.iload_n 1, 1) := by decide +kernel
theorem d_Mo_shortIn_17 : decode c_Mo_shortIn 17 = .ok (.invokevirtual 150, 3) := by decide +kernel
theorem d_Mo_shortIn_20 : decode c_Mo_shortIn 20 = .ok (.lconst 0, 1) := by decide +kernel
theorem d_Mo_shortIn_21 : decode c_Mo_shortIn 21 = .ok (.lcmp, 1) := by decide +kernel
theorem d_Mo_shortIn_22 : decode c_Mo_shortIn 22 = .ok (.ifCond .ge 5, 3) := by decide +kernel
theorem d_Mo_shortIn_25 : decode c_Mo_shortIn 25 = .ok (.iload_n 1, 1) := by decide +kernel
theorem d_Mo_shortIn_26 : decode c_Mo_shortIn 26 = .ok (.ireturn, 1) := by decide +kernel
theorem d_Mo_shortIn_27 : decode c_Mo_shortIn 27 = .ok (.iinc 1 1, 3) := by decide +kernel
theorem d_Mo_shortIn_30 : decode c_Mo_shortIn 30 = .ok (.goto (-23), 3) := by decide +kernel
theorem d_Mo_shortIn_33 : decode c_Mo_shortIn 33 = .ok (.iconst (-1), 1) := by decide +kernel
theorem d_Mo_shortIn_34 : decode c_Mo_shortIn 34 = .ok (.ireturn, 1) := by decide +kernel
theorem d_Mo_restOf_0 : decode c_Mo_restOf 0 = .ok (.lload_n 0, 1) := by decide +kernel
theorem d_Mo_restOf_1 : decode c_Mo_restOf 1 = .ok (.lstore 6, 2) := by decide +kernel
theorem d_Mo_restOf_3 : decode c_Mo_restOf 3 = .ok (.iconst 0, 1) := by decide +kernel
theorem d_Mo_restOf_4 : decode c_Mo_restOf 4 = .ok (.istore 8, 2) := by decide +kernel
theorem d_Mo_restOf_6 : decode c_Mo_restOf 6 = .ok (.iload 8, 2) := by decide +kernel
theorem d_Mo_restOf_8 : decode c_Mo_restOf 8 = .ok (.iload_n 3, 1) := by decide +kernel
theorem d_Mo_restOf_9 : decode c_Mo_restOf 9 = .ok (.if_icmp .ge 45, 3) := by decide +kernel
theorem d_Mo_restOf_12 : decode c_Mo_restOf 12 = .ok (.lload 6, 2) := by decide +kernel
theorem d_Mo_restOf_14 : decode c_Mo_restOf 14 = .ok (.lload 6, 2) := by decide +kernel
theorem d_Mo_restOf_16 : decode c_Mo_restOf 16 = .ok (.iload_n 2, 1) := by decide +kernel
theorem d_Mo_restOf_17 : decode c_Mo_restOf 17 = .ok (.i2l, 1) := by decide +kernel
theorem d_Mo_restOf_18 : decode c_Mo_restOf 18 = .ok (.lmul, 1) := by decide +kernel
theorem d_Mo_restOf_19 : decode c_Mo_restOf 19 = .ok (.ldc2_w 153, 3) := by decide +kernel
theorem d_Mo_restOf_22 : decode c_Mo_restOf 22 = .ok (.ladd, 1) := by decide +kernel
theorem d_Mo_restOf_23 : decode c_Mo_restOf 23 = .ok (.ldc2_w 155, 3) := by decide +kernel
theorem d_Mo_restOf_26 : decode c_Mo_restOf 26 = .ok (.ldiv, 1) := by decide +kernel
theorem d_Mo_restOf_27 : decode c_Mo_restOf 27 = .ok (.lload 4, 2) := by decide +kernel
theorem d_Mo_restOf_29 : decode c_Mo_restOf 29 = .ok (.lsub, 1) := by decide +kernel
theorem d_Mo_restOf_30 : decode c_Mo_restOf 30 = .ok (.ladd, 1) := by decide +kernel
theorem d_Mo_restOf_31 : decode c_Mo_restOf 31 = .ok (.lstore 6, 2) := by decide +kernel
theorem d_Mo_restOf_33 : decode c_Mo_restOf 33 = .ok (.lload 6, 2) := by decide +kernel
theorem d_Mo_restOf_35 : decode c_Mo_restOf 35 = .ok (.lconst 0, 1) := by decide +kernel
theorem d_Mo_restOf_36 : decode c_Mo_restOf 36 = .ok (.lcmp, 1) := by decide +kernel
theorem d_Mo_restOf_37 : decode c_Mo_restOf 37 = .ok (.ifCond .ge 7, 3) := by decide +kernel
theorem d_Mo_restOf_40 : decode c_Mo_restOf 40 = .ok (.lconst 0, 1) := by decide +kernel
theorem d_Mo_restOf_41 : decode c_Mo_restOf 41 = .ok (.goto 5, 3) := by decide +kernel
theorem d_Mo_restOf_44 : decode c_Mo_restOf 44 = .ok (.lload 6, 2) := by decide +kernel
theorem d_Mo_restOf_46 : decode c_Mo_restOf 46 = .ok (.lstore 6, 2) := by decide +kernel
theorem d_Mo_restOf_48 : decode c_Mo_restOf 48 = .ok (.iinc 8 1, 3) := by decide +kernel
theorem d_Mo_restOf_51 : decode c_Mo_restOf 51 = .ok (.goto (-45), 3) := by decide +kernel
theorem d_Mo_restOf_54 : decode c_Mo_restOf 54 = .ok (.lload 6, 2) := by decide +kernel
theorem d_Mo_restOf_56 : decode c_Mo_restOf 56 = .ok (.lreturn, 1) := by decide +kernel
theorem d_Mo_paymentOf_0 : decode c_Mo_paymentOf 0 = .ok (.lconst 0, 1) := by decide +kernel
theorem d_Mo_paymentOf_1 : decode c_Mo_paymentOf 1 = .ok (.lstore_n 3, 1) := by decide +kernel
theorem d_Mo_paymentOf_2 : decode c_Mo_paymentOf 2 = .ok (.ldc2_w 157, 3) := by decide +kernel
theorem d_Mo_paymentOf_5 : decode c_Mo_paymentOf 5 = .ok (.lstore 5, 2) := by decide +kernel
theorem d_Mo_paymentOf_7 : decode c_Mo_paymentOf 7 = .ok (.lload 5, 2) := by decide +kernel
theorem d_Mo_paymentOf_9 : decode c_Mo_paymentOf 9 = .ok (.lload_n 3, 1) := by decide +kernel
theorem d_Mo_paymentOf_10 : decode c_Mo_paymentOf 10 = .ok (.lsub, 1) := by decide +kernel
theorem d_Mo_paymentOf_11 : decode c_Mo_paymentOf 11 = .ok (.lconst 1, 1) := by decide +kernel
theorem d_Mo_paymentOf_12 : decode c_Mo_paymentOf 12 = .ok (.lcmp, 1) := by decide +kernel
theorem d_Mo_paymentOf_13 : decode c_Mo_paymentOf 13 = .ok (.ifCond .le 63, 3) := by decide +kernel
theorem d_Mo_paymentOf_16 : decode c_Mo_paymentOf 16 = .ok (.lload_n 3, 1) := by decide +kernel
theorem d_Mo_paymentOf_17 : decode c_Mo_paymentOf 17 = .ok (.lload 5, 2) := by decide +kernel
theorem d_Mo_paymentOf_19 : decode c_Mo_paymentOf 19 = .ok (.ladd, 1) := by decide +kernel
theorem d_Mo_paymentOf_20 : decode c_Mo_paymentOf 20 = .ok (.ldc2_w 90, 3) := by decide +kernel
theorem d_Mo_paymentOf_23 : decode c_Mo_paymentOf 23 = .ok (.ldiv, 1) := by decide +kernel
theorem d_Mo_paymentOf_24 : decode c_Mo_paymentOf 24 = .ok (.lstore 7, 2) := by decide +kernel
theorem d_Mo_paymentOf_26 : decode c_Mo_paymentOf 26 = .ok (.iload_n 0, 1) := by decide +kernel
theorem d_Mo_paymentOf_27 : decode c_Mo_paymentOf 27 = .ok (.i2l, 1) := by decide +kernel
theorem d_Mo_paymentOf_28 : decode c_Mo_paymentOf 28 = .ok (.iload_n 1, 1) := by decide +kernel
theorem d_Mo_paymentOf_29 : decode c_Mo_paymentOf 29 = .ok (.iload_n 2, 1) := by decide +kernel
theorem d_Mo_paymentOf_30 : decode c_Mo_paymentOf 30 = .ok (.lload 7, 2) := by decide +kernel
theorem d_Mo_paymentOf_32 : decode c_Mo_paymentOf 32 = .ok (.invokestatic 159, 3) := by decide +kernel
theorem d_Mo_paymentOf_35 : decode c_Mo_paymentOf 35 = .ok (.lconst 0, 1) := by decide +kernel
theorem d_Mo_paymentOf_36 : decode c_Mo_paymentOf 36 = .ok (.lcmp, 1) := by decide +kernel
theorem d_Mo_paymentOf_37 : decode c_Mo_paymentOf 37 = .ok (.ifCond .ne 7, 3) := by decide +kernel
theorem d_Mo_paymentOf_40 : decode c_Mo_paymentOf 40 = .ok (.iconst 1, 1) := by decide +kernel
theorem d_Mo_paymentOf_41 : decode c_Mo_paymentOf 41 = .ok (.goto 4, 3) := by decide +kernel
theorem d_Mo_paymentOf_44 : decode c_Mo_paymentOf 44 = .ok (.iconst 0, 1) := by decide +kernel
theorem d_Mo_paymentOf_45 : decode c_Mo_paymentOf 45 = .ok (.istore 9, 2) := by decide +kernel
theorem d_Mo_paymentOf_47 : decode c_Mo_paymentOf 47 = .ok (.iload 9, 2) := by decide +kernel
theorem d_Mo_paymentOf_49 : decode c_Mo_paymentOf 49 = .ok (.ifCond .eq 8, 3) := by decide +kernel
theorem d_Mo_paymentOf_52 : decode c_Mo_paymentOf 52 = .ok (.lload 7, 2) := by decide +kernel
theorem d_Mo_paymentOf_54 : decode c_Mo_paymentOf 54 = .ok (.goto 5, 3) := by decide +kernel
theorem d_Mo_paymentOf_57 : decode c_Mo_paymentOf 57 = .ok (.lload 5, 2) := by decide +kernel
theorem d_Mo_paymentOf_59 : decode c_Mo_paymentOf 59 = .ok (.lstore 5, 2) := by decide +kernel
theorem d_Mo_paymentOf_61 : decode c_Mo_paymentOf 61 = .ok (.iload 9, 2) := by decide +kernel
theorem d_Mo_paymentOf_63 : decode c_Mo_paymentOf 63 = .ok (.ifCond .eq 7, 3) := by decide +kernel
theorem d_Mo_paymentOf_66 : decode c_Mo_paymentOf 66 = .ok (.lload_n 3, 1) := by decide +kernel
theorem d_Mo_paymentOf_67 : decode c_Mo_paymentOf 67 = .ok (.goto 5, 3) := by decide +kernel
theorem d_Mo_paymentOf_70 : decode c_Mo_paymentOf 70 = .ok (.lload 7, 2) := by decide +kernel
theorem d_Mo_paymentOf_72 : decode c_Mo_paymentOf 72 = .ok (.lstore_n 3, 1) := by decide +kernel
theorem d_Mo_paymentOf_73 : decode c_Mo_paymentOf 73 = .ok (.goto (-66), 3) := by decide +kernel
theorem d_Mo_paymentOf_76 : decode c_Mo_paymentOf 76 = .ok (.lload 5, 2) := by decide +kernel
theorem d_Mo_paymentOf_78 : decode c_Mo_paymentOf 78 = .ok (.lreturn, 1) := by decide +kernel
theorem d_Mo_isLoan_0 : decode c_Mo_isLoan 0 = .ok (.iload_n 0, 1) := by decide +kernel
theorem d_Mo_isLoan_1 : decode c_Mo_isLoan 1 = .ok (.i2l, 1) := by decide +kernel
theorem d_Mo_isLoan_2 : decode c_Mo_isLoan 2 = .ok (.lconst 1, 1) := by decide +kernel
theorem d_Mo_isLoan_3 : decode c_Mo_isLoan 3 = .ok (.ldc2_w 88, 3) := by decide +kernel
theorem d_Mo_isLoan_6 : decode c_Mo_isLoan 6 = .ok (.invokestatic 64, 3) := by decide +kernel
theorem d_Mo_isLoan_9 : decode c_Mo_isLoan 9 = .ok (.ifCond .eq 31, 3) := by decide +kernel
theorem d_Mo_isLoan_12 : decode c_Mo_isLoan 12 = .ok (.iload_n 1, 1) := by decide +kernel
theorem d_Mo_isLoan_13 : decode c_Mo_isLoan 13 = .ok (.i2l, 1) := by decide +kernel
theorem d_Mo_isLoan_14 : decode c_Mo_isLoan 14 = .ok (.lconst 0, 1) := by decide +kernel
theorem d_Mo_isLoan_15 : decode c_Mo_isLoan 15 = .ok (.ldc2_w 83, 3) := by decide +kernel
theorem d_Mo_isLoan_18 : decode c_Mo_isLoan 18 = .ok (.invokestatic 64, 3) := by decide +kernel
theorem d_Mo_isLoan_21 : decode c_Mo_isLoan 21 = .ok (.ifCond .eq 19, 3) := by decide +kernel
theorem d_Mo_isLoan_24 : decode c_Mo_isLoan 24 = .ok (.iload_n 2, 1) := by decide +kernel
theorem d_Mo_isLoan_25 : decode c_Mo_isLoan 25 = .ok (.i2l, 1) := by decide +kernel
theorem d_Mo_isLoan_26 : decode c_Mo_isLoan 26 = .ok (.lconst 1, 1) := by decide +kernel
theorem d_Mo_isLoan_27 : decode c_Mo_isLoan 27 = .ok (.ldc2_w 163, 3) := by decide +kernel
theorem d_Mo_isLoan_30 : decode c_Mo_isLoan 30 = .ok (.invokestatic 64, 3) := by decide +kernel
theorem d_Mo_isLoan_33 : decode c_Mo_isLoan 33 = .ok (.ifCond .eq 7, 3) := by decide +kernel
theorem d_Mo_isLoan_36 : decode c_Mo_isLoan 36 = .ok (.iconst 1, 1) := by decide +kernel
theorem d_Mo_isLoan_37 : decode c_Mo_isLoan 37 = .ok (.goto 4, 3) := by decide +kernel
theorem d_Mo_isLoan_40 : decode c_Mo_isLoan 40 = .ok (.iconst 0, 1) := by decide +kernel
theorem d_Mo_isLoan_41 : decode c_Mo_isLoan 41 = .ok (.ireturn, 1) := by decide +kernel
theorem d_Mo_payment_0 : decode c_Mo_payment 0 = .ok (.aload_n 0, 1) := by decide +kernel
theorem d_Mo_payment_1 : decode c_Mo_payment 1 = .ok (.iload_n 1, 1) := by decide +kernel
theorem d_Mo_payment_2 : decode c_Mo_payment 2 = .ok (.iload_n 2, 1) := by decide +kernel
theorem d_Mo_payment_3 : decode c_Mo_payment 3 = .ok (.iload_n 3, 1) := by decide +kernel
theorem d_Mo_payment_4 : decode c_Mo_payment 4 = .ok (.invokestatic 165, 3) := by decide +kernel
theorem d_Mo_payment_7 : decode c_Mo_payment 7 = .ok (.ifCond .eq 7, 3) := by decide +kernel
theorem d_Mo_payment_10 : decode c_Mo_payment 10 = .ok (.iconst 0, 1) := by decide +kernel
theorem d_Mo_payment_11 : decode c_Mo_payment 11 = .ok (.goto 4, 3) := by decide +kernel
theorem d_Mo_payment_14 : decode c_Mo_payment 14 = .ok (.iconst 1, 1) := by decide +kernel
theorem d_Mo_payment_15 : decode c_Mo_payment 15 = .ok (.invokevirtual 85, 3) := by decide +kernel
theorem d_Mo_payment_18 : decode c_Mo_payment 18 = .ok (.ifCond .eq 7, 3) := by decide +kernel
theorem d_Mo_payment_21 : decode c_Mo_payment 21 = .ok (.iconst 0, 1) := by decide +kernel
theorem d_Mo_payment_22 : decode c_Mo_payment 22 = .ok (.goto 10, 3) := by decide +kernel
theorem d_Mo_payment_25 : decode c_Mo_payment 25 = .ok (.iload_n 1, 1) := by decide +kernel
theorem d_Mo_payment_26 : decode c_Mo_payment 26 = .ok (.iload_n 2, 1) := by decide +kernel
theorem d_Mo_payment_27 : decode c_Mo_payment 27 = .ok (.iload_n 3, 1) := by decide +kernel
theorem d_Mo_payment_28 : decode c_Mo_payment 28 = .ok (.invokestatic 169, 3) := by decide +kernel
theorem d_Mo_payment_31 : decode c_Mo_payment 31 = .ok (.l2i, 1) := by decide +kernel
theorem d_Mo_payment_32 : decode c_Mo_payment 32 = .ok (.ireturn, 1) := by decide +kernel
theorem d_Mo_rest_0 : decode c_Mo_rest 0 = .ok (.aload_n 0, 1) := by decide +kernel
theorem d_Mo_rest_1 : decode c_Mo_rest 1 = .ok (.iload_n 1, 1) := by decide +kernel
theorem d_Mo_rest_2 : decode c_Mo_rest 2 = .ok (.iload_n 2, 1) := by decide +kernel
theorem d_Mo_rest_3 : decode c_Mo_rest 3 = .ok (.iload_n 3, 1) := by decide +kernel
theorem d_Mo_rest_4 : decode c_Mo_rest 4 = .ok (.invokestatic 165, 3) := by decide +kernel
theorem d_Mo_rest_7 : decode c_Mo_rest 7 = .ok (.ifCond .eq 19, 3) := by decide +kernel
theorem d_Mo_rest_10 : decode c_Mo_rest 10 = .ok (.iload 4, 2) := by decide +kernel
theorem d_Mo_rest_12 : decode c_Mo_rest 12 = .ok (.i2l, 1) := by decide +kernel
theorem d_Mo_rest_13 : decode c_Mo_rest 13 = .ok (.lconst 0, 1) := by decide +kernel
theorem d_Mo_rest_14 : decode c_Mo_rest 14 = .ok (.iload_n 3, 1) := by decide +kernel
theorem d_Mo_rest_15 : decode c_Mo_rest 15 = .ok (.i2l, 1) := by decide +kernel
theorem d_Mo_rest_16 : decode c_Mo_rest 16 = .ok (.invokestatic 64, 3) := by decide +kernel
theorem d_Mo_rest_19 : decode c_Mo_rest 19 = .ok (.ifCond .eq 7, 3) := by decide +kernel
theorem d_Mo_rest_22 : decode c_Mo_rest 22 = .ok (.iconst 0, 1) := by decide +kernel
theorem d_Mo_rest_23 : decode c_Mo_rest 23 = .ok (.goto 4, 3) := by decide +kernel
theorem d_Mo_rest_26 : decode c_Mo_rest 26 = .ok (.iconst 1, 1) := by decide +kernel
theorem d_Mo_rest_27 : decode c_Mo_rest 27 = .ok (.invokevirtual 85, 3) := by decide +kernel
theorem d_Mo_rest_30 : decode c_Mo_rest 30 = .ok (.ifCond .eq 5, 3) := by decide +kernel
theorem d_Mo_rest_33 : decode c_Mo_rest 33 = .ok (.iconst 0, 1) := by decide +kernel
theorem d_Mo_rest_34 : decode c_Mo_rest 34 = .ok (.ireturn, 1) := by decide +kernel
theorem d_Mo_rest_35 : decode c_Mo_rest 35 = .ok (.iload_n 1, 1) := by decide +kernel
theorem d_Mo_rest_36 : decode c_Mo_rest 36 = .ok (.i2l, 1) := by decide +kernel
theorem d_Mo_rest_37 : decode c_Mo_rest 37 = .ok (.iload_n 2, 1) := by decide +kernel
theorem d_Mo_rest_38 : decode c_Mo_rest 38 = .ok (.iload 4, 2) := by decide +kernel
theorem d_Mo_rest_40 : decode c_Mo_rest 40 = .ok (.iload_n 1, 1) := by decide +kernel
theorem d_Mo_rest_41 : decode c_Mo_rest 41 = .ok (.iload_n 2, 1) := by decide +kernel
theorem d_Mo_rest_42 : decode c_Mo_rest 42 = .ok (.iload_n 3, 1) := by decide +kernel
theorem d_Mo_rest_43 : decode c_Mo_rest 43 = .ok (.invokestatic 169, 3) := by decide +kernel
theorem d_Mo_rest_46 : decode c_Mo_rest 46 = .ok (.invokestatic 159, 3) := by decide +kernel
theorem d_Mo_rest_49 : decode c_Mo_rest 49 = .ok (.l2i, 1) := by decide +kernel
theorem d_Mo_rest_50 : decode c_Mo_rest 50 = .ok (.ireturn, 1) := by decide +kernel
end
section
/-! what each instruction decodes to, printed by wip/tools/names.py -/
theorem d_La_cell_0 : decode c_La_cell 0 = .ok (.iload_n 1, 1) := by decide +kernel
theorem d_La_cell_1 : decode c_La_cell 1 = .ok (.aload_n 0, 1) := by decide +kernel
theorem d_La_cell_2 : decode c_La_cell 2 = .ok (.arraylength, 1) := by decide +kernel
theorem d_La_cell_3 : decode c_La_cell 3 = .ok (.if_icmp .ge 9, 3) := by decide +kernel
theorem d_La_cell_6 : decode c_La_cell 6 = .ok (.aload_n 0, 1) := by decide +kernel
theorem d_La_cell_7 : decode c_La_cell 7 = .ok (.iload_n 1, 1) := by decide +kernel
theorem d_La_cell_8 : decode c_La_cell 8 = .ok (.iaload, 1) := by decide +kernel
theorem d_La_cell_9 : decode c_La_cell 9 = .ok (.goto 4, 3) := by decide +kernel
theorem d_La_cell_12 : decode c_La_cell 12 = .ok (.iconst 0, 1) := by decide +kernel
theorem d_La_cell_13 : decode c_La_cell 13 = .ok (.ireturn, 1) := by decide +kernel
theorem d_La_index_0 : decode c_La_index 0 = .ok (.aload_n 3, 1) := by decide +kernel
theorem d_La_index_1 : decode c_La_index 1 = .ok (.iconst 0, 1) := by decide +kernel
theorem d_La_index_2 : decode c_La_index 2 = .ok (.aload_n 0, 1) := by decide +kernel
theorem d_La_index_3 : decode c_La_index 3 = .ok (.iload_n 1, 1) := by decide +kernel
theorem d_La_index_4 : decode c_La_index 4 = .ok (.iload_n 2, 1) := by decide +kernel
theorem d_La_index_5 : decode c_La_index 5 = .ok (.invokevirtual 7, 3) := by decide +kernel
theorem d_La_index_8 : decode c_La_index 8 = .ok (.i2l, 1) := by decide +kernel
theorem d_La_index_9 : decode c_La_index 9 = .ok (.lastore, 1) := by decide +kernel
theorem d_La_index_10 : decode c_La_index 10 = .ok (.goto 7, 3) := by decide +kernel
theorem d_La_index_13 : decode c_La_index 13 = .ok (.astore 4, 2) := by decide +kernel
theorem d_La_index_15 : decode c_La_index 15 = .ok (.iconst 1, 1) := by decide +kernel
theorem d_La_index_16 : decode c_La_index 16 = .ok (.ireturn, 1) := by decide +kernel
theorem d_La_index_17 : decode c_La_index 17 = .ok (.iconst 0, 1) := by decide +kernel
theorem d_La_index_18 : decode c_La_index 18 = .ok (.ireturn, 1) := by decide +kernel
theorem d_La_budget_0 : decode c_La_budget 0 = .ok (.aload_n 3, 1) := by decide +kernel
theorem d_La_budget_1 : decode c_La_budget 1 = .ok (.iconst 0, 1) := by decide +kernel
theorem d_La_budget_2 : decode c_La_budget 2 = .ok (.aload_n 0, 1) := by decide +kernel
theorem d_La_budget_3 : decode c_La_budget 3 = .ok (.iload_n 1, 1) := by decide +kernel
theorem d_La_budget_4 : decode c_La_budget 4 = .ok (.iload_n 2, 1) := by decide +kernel
theorem d_La_budget_5 : decode c_La_budget 5 = .ok (.invokevirtual 15, 3) := by decide +kernel
theorem d_La_budget_8 : decode c_La_budget 8 = .ok (.i2l, 1) := by decide +kernel
theorem d_La_budget_9 : decode c_La_budget 9 = .ok (.lastore, 1) := by decide +kernel
theorem d_La_budget_10 : decode c_La_budget 10 = .ok (.goto 7, 3) := by decide +kernel
theorem d_La_budget_13 : decode c_La_budget 13 = .ok (.astore 4, 2) := by decide +kernel
theorem d_La_budget_15 : decode c_La_budget 15 = .ok (.iconst 1, 1) := by decide +kernel
theorem d_La_budget_16 : decode c_La_budget 16 = .ok (.ireturn, 1) := by decide +kernel
theorem d_La_budget_17 : decode c_La_budget 17 = .ok (.iconst 0, 1) := by decide +kernel
theorem d_La_budget_18 : decode c_La_budget 18 = .ok (.ireturn, 1) := by decide +kernel
theorem d_La_part_0 : decode c_La_part 0 = .ok (.aload_n 3, 1) := by decide +kernel
theorem d_La_part_1 : decode c_La_part 1 = .ok (.iconst 0, 1) := by decide +kernel
theorem d_La_part_2 : decode c_La_part 2 = .ok (.aload_n 0, 1) := by decide +kernel
theorem d_La_part_3 : decode c_La_part 3 = .ok (.iload_n 1, 1) := by decide +kernel
theorem d_La_part_4 : decode c_La_part 4 = .ok (.iload_n 2, 1) := by decide +kernel
theorem d_La_part_5 : decode c_La_part 5 = .ok (.invokevirtual 18, 3) := by decide +kernel
theorem d_La_part_8 : decode c_La_part 8 = .ok (.i2l, 1) := by decide +kernel
theorem d_La_part_9 : decode c_La_part 9 = .ok (.lastore, 1) := by decide +kernel
theorem d_La_part_10 : decode c_La_part 10 = .ok (.goto 11, 3) := by decide +kernel
theorem d_La_part_13 : decode c_La_part 13 = .ok (.astore 4, 2) := by decide +kernel
theorem d_La_part_15 : decode c_La_part 15 = .ok (.iconst 1, 1) := by decide +kernel
theorem d_La_part_16 : decode c_La_part 16 = .ok (.ireturn, 1) := by decide +kernel
theorem d_La_part_17 : decode c_La_part 17 = .ok (.astore 4, 2) := by decide +kernel
theorem d_La_part_19 : decode c_La_part 19 = .ok (.iconst 2, 1) := by decide +kernel
theorem d_La_part_20 : decode c_La_part 20 = .ok (.ireturn, 1) := by decide +kernel
theorem d_La_part_21 : decode c_La_part 21 = .ok (.iconst 0, 1) := by decide +kernel
theorem d_La_part_22 : decode c_La_part 22 = .ok (.ireturn, 1) := by decide +kernel
theorem d_La_moves_0 : decode c_La_moves 0 = .ok (.aload 5, 2) := by decide +kernel
theorem d_La_moves_2 : decode c_La_moves 2 = .ok (.iconst 0, 1) := by decide +kernel
theorem d_La_moves_3 : decode c_La_moves 3 = .ok (.aload_n 0, 1) := by decide +kernel
theorem d_La_moves_4 : decode c_La_moves 4 = .ok (.iload_n 1, 1) := by decide +kernel
theorem d_La_moves_5 : decode c_La_moves 5 = .ok (.iload_n 2, 1) := by decide +kernel
theorem d_La_moves_6 : decode c_La_moves 6 = .ok (.iload_n 3, 1) := by decide +kernel
theorem d_La_moves_7 : decode c_La_moves 7 = .ok (.iload 4, 2) := by decide +kernel
theorem d_La_moves_9 : decode c_La_moves 9 = .ok (.invokevirtual 23, 3) := by decide +kernel
theorem d_La_moves_12 : decode c_La_moves 12 = .ok (.i2l, 1) := by decide +kernel
theorem d_La_moves_13 : decode c_La_moves 13 = .ok (.lastore, 1) := by decide +kernel
theorem d_La_moves_14 : decode c_La_moves 14 = .ok (.goto 7, 3) := by decide +kernel
theorem d_La_moves_17 : decode c_La_moves 17 = .ok (.astore 6, 2) := by decide +kernel
theorem d_La_moves_19 : decode c_La_moves 19 = .ok (.iconst 1, 1) := by decide +kernel
theorem d_La_moves_20 : decode c_La_moves 20 = .ok (.ireturn, 1) := by decide +kernel
theorem d_La_moves_21 : decode c_La_moves 21 = .ok (.iconst 0, 1) := by decide +kernel
theorem d_La_moves_22 : decode c_La_moves 22 = .ok (.ireturn, 1) := by decide +kernel
theorem d_La_care_0 : decode c_La_care 0 = .ok (.aload 4, 2) := by decide +kernel
theorem d_La_care_2 : decode c_La_care 2 = .ok (.iconst 0, 1) := by decide +kernel
theorem d_La_care_3 : decode c_La_care 3 = .ok (.aload_n 0, 1) := by decide +kernel
theorem d_La_care_4 : decode c_La_care 4 = .ok (.iload_n 1, 1) := by decide +kernel
theorem d_La_care_5 : decode c_La_care 5 = .ok (.iload_n 2, 1) := by decide +kernel
theorem d_La_care_6 : decode c_La_care 6 = .ok (.iload_n 3, 1) := by decide +kernel
theorem d_La_care_7 : decode c_La_care 7 = .ok (.invokevirtual 27, 3) := by decide +kernel
theorem d_La_care_10 : decode c_La_care 10 = .ok (.i2l, 1) := by decide +kernel
theorem d_La_care_11 : decode c_La_care 11 = .ok (.lastore, 1) := by decide +kernel
theorem d_La_care_12 : decode c_La_care 12 = .ok (.goto 7, 3) := by decide +kernel
theorem d_La_care_15 : decode c_La_care 15 = .ok (.astore 5, 2) := by decide +kernel
theorem d_La_care_17 : decode c_La_care 17 = .ok (.iconst 1, 1) := by decide +kernel
theorem d_La_care_18 : decode c_La_care 18 = .ok (.ireturn, 1) := by decide +kernel
theorem d_La_care_19 : decode c_La_care 19 = .ok (.iconst 0, 1) := by decide +kernel
theorem d_La_care_20 : decode c_La_care 20 = .ok (.ireturn, 1) := by decide +kernel
theorem d_La_share_0 : decode c_La_share 0 = .ok (.aload 4, 2) := by decide +kernel
theorem d_La_share_2 : decode c_La_share 2 = .ok (.iconst 0, 1) := by decide +kernel
theorem d_La_share_3 : decode c_La_share 3 = .ok (.aload_n 0, 1) := by decide +kernel
theorem d_La_share_4 : decode c_La_share 4 = .ok (.iload_n 1, 1) := by decide +kernel
theorem d_La_share_5 : decode c_La_share 5 = .ok (.iload_n 2, 1) := by decide +kernel
theorem d_La_share_6 : decode c_La_share 6 = .ok (.iload_n 3, 1) := by decide +kernel
theorem d_La_share_7 : decode c_La_share 7 = .ok (.invokevirtual 31, 3) := by decide +kernel
theorem d_La_share_10 : decode c_La_share 10 = .ok (.lastore, 1) := by decide +kernel
theorem d_La_share_11 : decode c_La_share 11 = .ok (.goto 7, 3) := by decide +kernel
theorem d_La_share_14 : decode c_La_share 14 = .ok (.astore 5, 2) := by decide +kernel
theorem d_La_share_16 : decode c_La_share 16 = .ok (.iconst 1, 1) := by decide +kernel
theorem d_La_share_17 : decode c_La_share 17 = .ok (.ireturn, 1) := by decide +kernel
theorem d_La_share_18 : decode c_La_share 18 = .ok (.iconst 0, 1) := by decide +kernel
theorem d_La_share_19 : decode c_La_share 19 = .ok (.ireturn, 1) := by decide +kernel
theorem d_La_cares_0 : decode c_La_cares 0 = .ok (.aload_n 3, 1) := by decide +kernel
theorem d_La_cares_1 : decode c_La_cares 1 = .ok (.iconst 0, 1) := by decide +kernel
theorem d_La_cares_2 : decode c_La_cares 2 = .ok (.aload_n 0, 1) := by decide +kernel
theorem d_La_cares_3 : decode c_La_cares 3 = .ok (.iload_n 1, 1) := by decide +kernel
theorem d_La_cares_4 : decode c_La_cares 4 = .ok (.iload_n 2, 1) := by decide +kernel
theorem d_La_cares_5 : decode c_La_cares 5 = .ok (.invokevirtual 35, 3) := by decide +kernel
theorem d_La_cares_8 : decode c_La_cares 8 = .ok (.i2l, 1) := by decide +kernel
theorem d_La_cares_9 : decode c_La_cares 9 = .ok (.lastore, 1) := by decide +kernel
theorem d_La_cares_10 : decode c_La_cares 10 = .ok (.goto 7, 3) := by decide +kernel
theorem d_La_cares_13 : decode c_La_cares 13 = .ok (.astore 4, 2) := by decide +kernel
theorem d_La_cares_15 : decode c_La_cares 15 = .ok (.iconst 1, 1) := by decide +kernel
theorem d_La_cares_16 : decode c_La_cares 16 = .ok (.ireturn, 1) := by decide +kernel
theorem d_La_cares_17 : decode c_La_cares 17 = .ok (.iconst 0, 1) := by decide +kernel
theorem d_La_cares_18 : decode c_La_cares 18 = .ok (.ireturn, 1) := by decide +kernel
theorem d_La_most_0 : decode c_La_most 0 = .ok (.aload_n 3, 1) := by decide +kernel
theorem d_La_most_1 : decode c_La_most 1 = .ok (.iconst 0, 1) := by decide +kernel
theorem d_La_most_2 : decode c_La_most 2 = .ok (.aload_n 0, 1) := by decide +kernel
theorem d_La_most_3 : decode c_La_most 3 = .ok (.iload_n 1, 1) := by decide +kernel
theorem d_La_most_4 : decode c_La_most 4 = .ok (.iload_n 2, 1) := by decide +kernel
theorem d_La_most_5 : decode c_La_most 5 = .ok (.invokevirtual 38, 3) := by decide +kernel
theorem d_La_most_8 : decode c_La_most 8 = .ok (.i2l, 1) := by decide +kernel
theorem d_La_most_9 : decode c_La_most 9 = .ok (.lastore, 1) := by decide +kernel
theorem d_La_most_10 : decode c_La_most 10 = .ok (.goto 7, 3) := by decide +kernel
theorem d_La_most_13 : decode c_La_most 13 = .ok (.astore 4, 2) := by decide +kernel
theorem d_La_most_15 : decode c_La_most 15 = .ok (.iconst 1, 1) := by decide +kernel
theorem d_La_most_16 : decode c_La_most 16 = .ok (.ireturn, 1) := by decide +kernel
theorem d_La_most_17 : decode c_La_most 17 = .ok (.iconst 0, 1) := by decide +kernel
theorem d_La_most_18 : decode c_La_most 18 = .ok (.ireturn, 1) := by decide +kernel
theorem d_La_work_0 : decode c_La_work 0 = .ok (.aload 5, 2) := by decide +kernel
theorem d_La_work_2 : decode c_La_work 2 = .ok (.iconst 0, 1) := by decide +kernel
theorem d_La_work_3 : decode c_La_work 3 = .ok (.aload_n 0, 1) := by decide +kernel
theorem d_La_work_4 : decode c_La_work 4 = .ok (.iload_n 1, 1) := by decide +kernel
theorem d_La_work_5 : decode c_La_work 5 = .ok (.iload_n 2, 1) := by decide +kernel
theorem d_La_work_6 : decode c_La_work 6 = .ok (.iload_n 3, 1) := by decide +kernel
theorem d_La_work_7 : decode c_La_work 7 = .ok (.iload 4, 2) := by decide +kernel
theorem d_La_work_9 : decode c_La_work 9 = .ok (.invokevirtual 41, 3) := by decide +kernel
theorem d_La_work_12 : decode c_La_work 12 = .ok (.i2l, 1) := by decide +kernel
theorem d_La_work_13 : decode c_La_work 13 = .ok (.lastore, 1) := by decide +kernel
theorem d_La_work_14 : decode c_La_work 14 = .ok (.goto 11, 3) := by decide +kernel
theorem d_La_work_17 : decode c_La_work 17 = .ok (.astore 6, 2) := by decide +kernel
theorem d_La_work_19 : decode c_La_work 19 = .ok (.iconst 1, 1) := by decide +kernel
theorem d_La_work_20 : decode c_La_work 20 = .ok (.ireturn, 1) := by decide +kernel
theorem d_La_work_21 : decode c_La_work 21 = .ok (.astore 6, 2) := by decide +kernel
theorem d_La_work_23 : decode c_La_work 23 = .ok (.iconst 2, 1) := by decide +kernel
theorem d_La_work_24 : decode c_La_work 24 = .ok (.ireturn, 1) := by decide +kernel
theorem d_La_work_25 : decode c_La_work 25 = .ok (.iconst 0, 1) := by decide +kernel
theorem d_La_work_26 : decode c_La_work 26 = .ok (.ireturn, 1) := by decide +kernel
theorem d_La_join_0 : decode c_La_join 0 = .ok (.aload 4, 2) := by decide +kernel
theorem d_La_join_2 : decode c_La_join 2 = .ok (.iconst 0, 1) := by decide +kernel
theorem d_La_join_3 : decode c_La_join 3 = .ok (.aload_n 0, 1) := by decide +kernel
theorem d_La_join_4 : decode c_La_join 4 = .ok (.iload_n 1, 1) := by decide +kernel
theorem d_La_join_5 : decode c_La_join 5 = .ok (.iload_n 2, 1) := by decide +kernel
theorem d_La_join_6 : decode c_La_join 6 = .ok (.iload_n 3, 1) := by decide +kernel
theorem d_La_join_7 : decode c_La_join 7 = .ok (.invokevirtual 44, 3) := by decide +kernel
theorem d_La_join_10 : decode c_La_join 10 = .ok (.i2l, 1) := by decide +kernel
theorem d_La_join_11 : decode c_La_join 11 = .ok (.lastore, 1) := by decide +kernel
theorem d_La_join_12 : decode c_La_join 12 = .ok (.goto 7, 3) := by decide +kernel
theorem d_La_join_15 : decode c_La_join 15 = .ok (.astore 5, 2) := by decide +kernel
theorem d_La_join_17 : decode c_La_join 17 = .ok (.iconst 1, 1) := by decide +kernel
theorem d_La_join_18 : decode c_La_join 18 = .ok (.ireturn, 1) := by decide +kernel
theorem d_La_join_19 : decode c_La_join 19 = .ok (.iconst 0, 1) := by decide +kernel
theorem d_La_join_20 : decode c_La_join 20 = .ok (.ireturn, 1) := by decide +kernel
theorem d_La_clash_0 : decode c_La_clash 0 = .ok (.aload 4, 2) := by decide +kernel
theorem d_La_clash_2 : decode c_La_clash 2 = .ok (.iconst 0, 1) := by decide +kernel
theorem d_La_clash_3 : decode c_La_clash 3 = .ok (.aload_n 0, 1) := by decide +kernel
theorem d_La_clash_4 : decode c_La_clash 4 = .ok (.iload_n 1, 1) := by decide +kernel
theorem d_La_clash_5 : decode c_La_clash 5 = .ok (.iload_n 2, 1) := by decide +kernel
theorem d_La_clash_6 : decode c_La_clash 6 = .ok (.iload_n 3, 1) := by decide +kernel
theorem d_La_clash_7 : decode c_La_clash 7 = .ok (.invokevirtual 47, 3) := by decide +kernel
theorem d_La_clash_10 : decode c_La_clash 10 = .ok (.ifCond .eq 7, 3) := by decide +kernel
theorem d_La_clash_13 : decode c_La_clash 13 = .ok (.lconst 1, 1) := by decide +kernel
theorem d_La_clash_14 : decode c_La_clash 14 = .ok (.goto 4, 3) := by decide +kernel
theorem d_La_clash_17 : decode c_La_clash 17 = .ok (.lconst 0, 1) := by decide +kernel
theorem d_La_clash_18 : decode c_La_clash 18 = .ok (.lastore, 1) := by decide +kernel
theorem d_La_clash_19 : decode c_La_clash 19 = .ok (.goto 7, 3) := by decide +kernel
theorem d_La_clash_22 : decode c_La_clash 22 = .ok (.astore 5, 2) := by decide +kernel
theorem d_La_clash_24 : decode c_La_clash 24 = .ok (.iconst 1, 1) := by decide +kernel
theorem d_La_clash_25 : decode c_La_clash 25 = .ok (.ireturn, 1) := by decide +kernel
theorem d_La_clash_26 : decode c_La_clash 26 = .ok (.iconst 0, 1) := by decide +kernel
theorem d_La_clash_27 : decode c_La_clash 27 = .ok (.ireturn, 1) := by decide +kernel
theorem d_La_needs_0 : decode c_La_needs 0 = .ok (.aload_n 3, 1) := by decide +kernel
theorem d_La_needs_1 : decode c_La_needs 1 = .ok (.iconst 0, 1) := by decide +kernel
theorem d_La_needs_2 : decode c_La_needs 2 = .ok (.aload_n 0, 1) := by decide +kernel
theorem d_La_needs_3 : decode c_La_needs 3 = .ok (.iload_n 1, 1) := by decide +kernel
theorem d_La_needs_4 : decode c_La_needs 4 = .ok (.iload_n 2, 1) := by decide +kernel
theorem d_La_needs_5 : decode c_La_needs 5 = .ok (.invokevirtual 51, 3) := by decide +kernel
theorem d_La_needs_8 : decode c_La_needs 8 = .ok (.i2l, 1) := by decide +kernel
theorem d_La_needs_9 : decode c_La_needs 9 = .ok (.lastore, 1) := by decide +kernel
theorem d_La_needs_10 : decode c_La_needs 10 = .ok (.goto 7, 3) := by decide +kernel
theorem d_La_needs_13 : decode c_La_needs 13 = .ok (.astore 4, 2) := by decide +kernel
theorem d_La_needs_15 : decode c_La_needs 15 = .ok (.iconst 1, 1) := by decide +kernel
theorem d_La_needs_16 : decode c_La_needs 16 = .ok (.ireturn, 1) := by decide +kernel
theorem d_La_needs_17 : decode c_La_needs 17 = .ok (.iconst 0, 1) := by decide +kernel
theorem d_La_needs_18 : decode c_La_needs 18 = .ok (.ireturn, 1) := by decide +kernel
theorem d_La_chosen_0 : decode c_La_chosen 0 = .ok (.aload_n 2, 1) := by decide +kernel
theorem d_La_chosen_1 : decode c_La_chosen 1 = .ok (.iconst 0, 1) := by decide +kernel
theorem d_La_chosen_2 : decode c_La_chosen 2 = .ok (.aload_n 0, 1) := by decide +kernel
theorem d_La_chosen_3 : decode c_La_chosen 3 = .ok (.iload_n 1, 1) := by decide +kernel
theorem d_La_chosen_4 : decode c_La_chosen 4 = .ok (.invokevirtual 54, 3) := by decide +kernel
theorem d_La_chosen_7 : decode c_La_chosen 7 = .ok (.ifCond .eq 7, 3) := by decide +kernel
theorem d_La_chosen_10 : decode c_La_chosen 10 = .ok (.lconst 1, 1) := by decide +kernel
theorem d_La_chosen_11 : decode c_La_chosen 11 = .ok (.goto 4, 3) := by decide +kernel
theorem d_La_chosen_14 : decode c_La_chosen 14 = .ok (.lconst 0, 1) := by decide +kernel
theorem d_La_chosen_15 : decode c_La_chosen 15 = .ok (.lastore, 1) := by decide +kernel
theorem d_La_chosen_16 : decode c_La_chosen 16 = .ok (.goto 6, 3) := by decide +kernel
theorem d_La_chosen_19 : decode c_La_chosen 19 = .ok (.astore_n 3, 1) := by decide +kernel
theorem d_La_chosen_20 : decode c_La_chosen 20 = .ok (.iconst 1, 1) := by decide +kernel
theorem d_La_chosen_21 : decode c_La_chosen 21 = .ok (.ireturn, 1) := by decide +kernel
theorem d_La_chosen_22 : decode c_La_chosen 22 = .ok (.iconst 0, 1) := by decide +kernel
theorem d_La_chosen_23 : decode c_La_chosen 23 = .ok (.ireturn, 1) := by decide +kernel
theorem d_La_costs_0 : decode c_La_costs 0 = .ok (.aload_n 2, 1) := by decide +kernel
theorem d_La_costs_1 : decode c_La_costs 1 = .ok (.iconst 0, 1) := by decide +kernel
theorem d_La_costs_2 : decode c_La_costs 2 = .ok (.aload_n 0, 1) := by decide +kernel
theorem d_La_costs_3 : decode c_La_costs 3 = .ok (.iload_n 1, 1) := by decide +kernel
theorem d_La_costs_4 : decode c_La_costs 4 = .ok (.invokevirtual 58, 3) := by decide +kernel
theorem d_La_costs_7 : decode c_La_costs 7 = .ok (.i2l, 1) := by decide +kernel
theorem d_La_costs_8 : decode c_La_costs 8 = .ok (.lastore, 1) := by decide +kernel
theorem d_La_costs_9 : decode c_La_costs 9 = .ok (.goto 6, 3) := by decide +kernel
theorem d_La_costs_12 : decode c_La_costs 12 = .ok (.astore_n 3, 1) := by decide +kernel
theorem d_La_costs_13 : decode c_La_costs 13 = .ok (.iconst 1, 1) := by decide +kernel
theorem d_La_costs_14 : decode c_La_costs 14 = .ok (.ireturn, 1) := by decide +kernel
theorem d_La_costs_15 : decode c_La_costs 15 = .ok (.iconst 0, 1) := by decide +kernel
theorem d_La_costs_16 : decode c_La_costs 16 = .ok (.ireturn, 1) := by decide +kernel
theorem d_La_money_0 : decode c_La_money 0 = .ok (.aload_n 0, 1) := by decide +kernel
theorem d_La_money_1 : decode c_La_money 1 = .ok (.iload_n 1, 1) := by decide +kernel
theorem d_La_money_2 : decode c_La_money 2 = .ok (.iload_n 2, 1) := by decide +kernel
theorem d_La_money_3 : decode c_La_money 3 = .ok (.invokevirtual 62, 3) := by decide +kernel
theorem d_La_money_6 : decode c_La_money 6 = .ok (.goto 6, 3) := by decide +kernel
theorem d_La_money_9 : decode c_La_money 9 = .ok (.astore_n 3, 1) := by decide +kernel
theorem d_La_money_10 : decode c_La_money 10 = .ok (.iconst 1, 1) := by decide +kernel
theorem d_La_money_11 : decode c_La_money 11 = .ok (.ireturn, 1) := by decide +kernel
theorem d_La_money_12 : decode c_La_money 12 = .ok (.iconst 0, 1) := by decide +kernel
theorem d_La_money_13 : decode c_La_money 13 = .ok (.ireturn, 1) := by decide +kernel
theorem d_La_reserve_0 : decode c_La_reserve 0 = .ok (.aload_n 2, 1) := by decide +kernel
theorem d_La_reserve_1 : decode c_La_reserve 1 = .ok (.iconst 0, 1) := by decide +kernel
theorem d_La_reserve_2 : decode c_La_reserve 2 = .ok (.aload_n 0, 1) := by decide +kernel
theorem d_La_reserve_3 : decode c_La_reserve 3 = .ok (.iload_n 1, 1) := by decide +kernel
theorem d_La_reserve_4 : decode c_La_reserve 4 = .ok (.invokevirtual 66, 3) := by decide +kernel
theorem d_La_reserve_7 : decode c_La_reserve 7 = .ok (.lastore, 1) := by decide +kernel
theorem d_La_reserve_8 : decode c_La_reserve 8 = .ok (.goto 6, 3) := by decide +kernel
theorem d_La_reserve_11 : decode c_La_reserve 11 = .ok (.astore_n 3, 1) := by decide +kernel
theorem d_La_reserve_12 : decode c_La_reserve 12 = .ok (.iconst 1, 1) := by decide +kernel
theorem d_La_reserve_13 : decode c_La_reserve 13 = .ok (.ireturn, 1) := by decide +kernel
theorem d_La_reserve_14 : decode c_La_reserve 14 = .ok (.iconst 0, 1) := by decide +kernel
theorem d_La_reserve_15 : decode c_La_reserve 15 = .ok (.ireturn, 1) := by decide +kernel
theorem d_La_payment_0 : decode c_La_payment 0 = .ok (.aload 4, 2) := by decide +kernel
theorem d_La_payment_2 : decode c_La_payment 2 = .ok (.iconst 0, 1) := by decide +kernel
theorem d_La_payment_3 : decode c_La_payment 3 = .ok (.aload_n 0, 1) := by decide +kernel
theorem d_La_payment_4 : decode c_La_payment 4 = .ok (.iload_n 1, 1) := by decide +kernel
theorem d_La_payment_5 : decode c_La_payment 5 = .ok (.iload_n 2, 1) := by decide +kernel
theorem d_La_payment_6 : decode c_La_payment 6 = .ok (.iload_n 3, 1) := by decide +kernel
theorem d_La_payment_7 : decode c_La_payment 7 = .ok (.invokevirtual 70, 3) := by decide +kernel
theorem d_La_payment_10 : decode c_La_payment 10 = .ok (.i2l, 1) := by decide +kernel
theorem d_La_payment_11 : decode c_La_payment 11 = .ok (.lastore, 1) := by decide +kernel
theorem d_La_payment_12 : decode c_La_payment 12 = .ok (.goto 7, 3) := by decide +kernel
theorem d_La_payment_15 : decode c_La_payment 15 = .ok (.astore 5, 2) := by decide +kernel
theorem d_La_payment_17 : decode c_La_payment 17 = .ok (.iconst 1, 1) := by decide +kernel
theorem d_La_payment_18 : decode c_La_payment 18 = .ok (.ireturn, 1) := by decide +kernel
theorem d_La_payment_19 : decode c_La_payment 19 = .ok (.iconst 0, 1) := by decide +kernel
theorem d_La_payment_20 : decode c_La_payment 20 = .ok (.ireturn, 1) := by decide +kernel
theorem d_La_rest_0 : decode c_La_rest 0 = .ok (.aload 5, 2) := by decide +kernel
theorem d_La_rest_2 : decode c_La_rest 2 = .ok (.iconst 0, 1) := by decide +kernel
theorem d_La_rest_3 : decode c_La_rest 3 = .ok (.aload_n 0, 1) := by decide +kernel
theorem d_La_rest_4 : decode c_La_rest 4 = .ok (.iload_n 1, 1) := by decide +kernel
theorem d_La_rest_5 : decode c_La_rest 5 = .ok (.iload_n 2, 1) := by decide +kernel
theorem d_La_rest_6 : decode c_La_rest 6 = .ok (.iload_n 3, 1) := by decide +kernel
theorem d_La_rest_7 : decode c_La_rest 7 = .ok (.iload 4, 2) := by decide +kernel
theorem d_La_rest_9 : decode c_La_rest 9 = .ok (.invokevirtual 73, 3) := by decide +kernel
theorem d_La_rest_12 : decode c_La_rest 12 = .ok (.i2l, 1) := by decide +kernel
theorem d_La_rest_13 : decode c_La_rest 13 = .ok (.lastore, 1) := by decide +kernel
theorem d_La_rest_14 : decode c_La_rest 14 = .ok (.goto 7, 3) := by decide +kernel
theorem d_La_rest_17 : decode c_La_rest 17 = .ok (.astore 6, 2) := by decide +kernel
theorem d_La_rest_19 : decode c_La_rest 19 = .ok (.iconst 1, 1) := by decide +kernel
theorem d_La_rest_20 : decode c_La_rest 20 = .ok (.ireturn, 1) := by decide +kernel
theorem d_La_rest_21 : decode c_La_rest 21 = .ok (.iconst 0, 1) := by decide +kernel
theorem d_La_rest_22 : decode c_La_rest 22 = .ok (.ireturn, 1) := by decide +kernel
end
section
/-! What a run's tables have: the objects' classes and slots; the classes of int[], long[], boolean[], int[][]. -/
abbrev gV : Type := va_G × ClassId × ClassId × ClassId × ClassId
abbrev tz (V : gV) : List (ClassId × FieldType) := [(V.2.1, .int), (V.2.2.1, .long), (V.2.2.2.1, .boolean), (V.2.2.2.2, .array .int)]
/-! The judgement gg: the machine, in a frame of this method at pc with the locals lv and the operand stack st, over ANY heap (and written places) of which om says yes; rows turn gg at an instruction into gg behind it. om is gW (a world that may be written) or gR (the heap stays as it is). -/
def gg (p : Program) (l : Launch) (e : Env) (R : Room) (s : State) (m : MethodId) (args : Array Value) (below : List Frame) (meth : Method) (c : Code) (nL : Nat) (Q : State → Prop) (cells slots : Nat) (om : Heap → List Loc → Prop) (lv : List (Nat × Value)) (pc : Nat) (st : List Value) : Prop :=
  ∀ (H : Heap) (locs : List Loc) (ls : Array Slot), om H locs → lv_has ls nL lv → W p l e R s m args below meth c H locs cells slots Q (F0 m pc ls st)
/-- a world that may be written: its cells lie in A, nothing else of H0 has changed -/
def gW (V : gV) (A : Nat → Prop) (H0 : Heap) (ws : va_W) (H : Heap) (locs : List Loc) : Prop := va_P V.1 clz ws H ∧ va_D A ws ∧ va_S A H0 H locs
/-- the heap is H1 and stays so -/
def gR (H1 : Heap) (locs1 : List Loc) (H : Heap) (locs : List Loc) : Prop := H = H1 ∧ locs = locs1
/-- a heap of that kind holds the world ws -/
def gO (om : Heap → List Loc → Prop) (V : gV) (ws : va_W) : Prop := ∀ H locs, om H locs → va_P V.1 clz ws H
theorem gO_w {V : gV} {A : Nat → Prop} {H0 : Heap} {ws : va_W} : gO (gW V A H0 ws) V ws := fun _ _ h => h.1
theorem gO_r {V : gV} {H1 : Heap} {locs1 : List Loc} {ws : va_W} (h : va_P V.1 clz ws H1) : gO (gR H1 locs1) V ws := fun _ _ q => q.1 ▸ h
/-- what the tables say of the classes, the array classes and the nest -/
def gK (V : gV) (U : State) : Prop := va_K V.1 clz (tz V) U ∧ ∀ q ∈ nlz, va_Nw (.methodLinkNest q.1 q.2.1 q.2.2.1 q.2.2.2) U
theorem gK.warm {V : gV} {s U : State} (hW : s.WarmedH U.vm) (h : gK V s) : gK V U := ⟨va_K.moved hW.alike h.1, fun q hq => va_Nw.warmM hW (h.2 q hq)⟩
theorem gK.vm {V : gV} {s U : State} (hv : s.vm = U.vm) (h : gK V s) : gK V U := ⟨va_K.moved (hv ▸ Vm.Alike.refl s.vm) h.1, fun q hq => va_Nw.same rfl hv (h.2 q hq)⟩
/-- what a walk knows throughout -/
def gE (p : Program) (s : State) (m : MethodId) (args : Array Value) (c : Code) (cc : ByteArray) (nL : Nat) (own : String) (V : gV) : Prop :=
  p.tables.exec = Jvm.exec ∧ c.code = cc ∧ c.maxLocals = nL ∧ s.vm.findClass own = some m.cls ∧ (∀ w ∈ gt, w.before args s = true) ∧ gK V s
section GR
variable {p : Program} {l : Launch} {e : Env} {R : Room} {s : State} {m : MethodId} {args : Array Value} {below : List Frame} {meth : Method} {c : Code} {V : gV} {A : Nat → Prop} {H0 : Heap} {nL : Nat} {Q : State → Prop} {cells slots : Nat} {om : Heap → List Loc → Prop} {ws : va_W} {lv : List (Nat × Value)} {pc : Nat} {rest : List Value} {cc : ByteArray} {own : String}
theorem g_iadd (E : gE p s m args c cc nL own V) {x y : Int32} (hd : decode cc pc = .ok (.iadd, 1)) (k : gg p l e R s m args below meth c nL Q cells slots om lv (pc + 1) (.int (x + y) :: rest)) : gg p l e R s m args below meth c nL Q cells slots om lv pc (.int y :: .int x :: rest) := fun H locs ls ho hl => lv_iadd E.1 E.2.1 hd  (k H locs ls ho hl)
theorem g_isub (E : gE p s m args c cc nL own V) {x y : Int32} (hd : decode cc pc = .ok (.isub, 1)) (k : gg p l e R s m args below meth c nL Q cells slots om lv (pc + 1) (.int (x - y) :: rest)) : gg p l e R s m args below meth c nL Q cells slots om lv pc (.int y :: .int x :: rest) := fun H locs ls ho hl => lv_isub E.1 E.2.1 hd  (k H locs ls ho hl)
theorem g_imul (E : gE p s m args c cc nL own V) {x y : Int32} (hd : decode cc pc = .ok (.imul, 1)) (k : gg p l e R s m args below meth c nL Q cells slots om lv (pc + 1) (.int (x * y) :: rest)) : gg p l e R s m args below meth c nL Q cells slots om lv pc (.int y :: .int x :: rest) := fun H locs ls ho hl => lv_imul E.1 E.2.1 hd  (k H locs ls ho hl)
theorem g_iand (E : gE p s m args c cc nL own V) {x y : Int32} (hd : decode cc pc = .ok (.iand, 1)) (k : gg p l e R s m args below meth c nL Q cells slots om lv (pc + 1) (.int (x &&& y) :: rest)) : gg p l e R s m args below meth c nL Q cells slots om lv pc (.int y :: .int x :: rest) := fun H locs ls ho hl => lv_iand E.1 E.2.1 hd  (k H locs ls ho hl)
theorem g_ior (E : gE p s m args c cc nL own V) {x y : Int32} (hd : decode cc pc = .ok (.ior, 1)) (k : gg p l e R s m args below meth c nL Q cells slots om lv (pc + 1) (.int (x ||| y) :: rest)) : gg p l e R s m args below meth c nL Q cells slots om lv pc (.int y :: .int x :: rest) := fun H locs ls ho hl => lv_ior E.1 E.2.1 hd  (k H locs ls ho hl)
theorem g_ixor (E : gE p s m args c cc nL own V) {x y : Int32} (hd : decode cc pc = .ok (.ixor, 1)) (k : gg p l e R s m args below meth c nL Q cells slots om lv (pc + 1) (.int (x ^^^ y) :: rest)) : gg p l e R s m args below meth c nL Q cells slots om lv pc (.int y :: .int x :: rest) := fun H locs ls ho hl => lv_ixor E.1 E.2.1 hd  (k H locs ls ho hl)
theorem g_ishl (E : gE p s m args c cc nL own V) {x y : Int32} (hd : decode cc pc = .ok (.ishl, 1)) (k : gg p l e R s m args below meth c nL Q cells slots om lv (pc + 1) (.int (x <<< (y &&& 31)) :: rest)) : gg p l e R s m args below meth c nL Q cells slots om lv pc (.int y :: .int x :: rest) := fun H locs ls ho hl => lv_ishl E.1 E.2.1 hd  (k H locs ls ho hl)
theorem g_ishr (E : gE p s m args c cc nL own V) {x y : Int32} (hd : decode cc pc = .ok (.ishr, 1)) (k : gg p l e R s m args below meth c nL Q cells slots om lv (pc + 1) (.int (x >>> (y &&& 31)) :: rest)) : gg p l e R s m args below meth c nL Q cells slots om lv pc (.int y :: .int x :: rest) := fun H locs ls ho hl => lv_ishr E.1 E.2.1 hd  (k H locs ls ho hl)
theorem g_idiv (E : gE p s m args c cc nL own V) {x y : Int32} (hd : decode cc pc = .ok (.idiv, 1)) (hne : ¬ y = 0) (k : gg p l e R s m args below meth c nL Q cells slots om lv (pc + 1) (.int (x / y) :: rest)) : gg p l e R s m args below meth c nL Q cells slots om lv pc (.int y :: .int x :: rest) := fun H locs ls ho hl => lv_idiv E.1 E.2.1 hd hne (k H locs ls ho hl)
theorem g_irem (E : gE p s m args c cc nL own V) {x y : Int32} (hd : decode cc pc = .ok (.irem, 1)) (hne : ¬ y = 0) (k : gg p l e R s m args below meth c nL Q cells slots om lv (pc + 1) (.int (x - x / y * y) :: rest)) : gg p l e R s m args below meth c nL Q cells slots om lv pc (.int y :: .int x :: rest) := fun H locs ls ho hl => lv_irem E.1 E.2.1 hd hne (k H locs ls ho hl)
theorem g_ladd (E : gE p s m args c cc nL own V) {x y : Int64} (hd : decode cc pc = .ok (.ladd, 1)) (k : gg p l e R s m args below meth c nL Q cells slots om lv (pc + 1) (.long (x + y) :: rest)) : gg p l e R s m args below meth c nL Q cells slots om lv pc (.long y :: .long x :: rest) := fun H locs ls ho hl => lv_ladd E.1 E.2.1 hd  (k H locs ls ho hl)
theorem g_lsub (E : gE p s m args c cc nL own V) {x y : Int64} (hd : decode cc pc = .ok (.lsub, 1)) (k : gg p l e R s m args below meth c nL Q cells slots om lv (pc + 1) (.long (x - y) :: rest)) : gg p l e R s m args below meth c nL Q cells slots om lv pc (.long y :: .long x :: rest) := fun H locs ls ho hl => lv_lsub E.1 E.2.1 hd  (k H locs ls ho hl)
theorem g_lmul (E : gE p s m args c cc nL own V) {x y : Int64} (hd : decode cc pc = .ok (.lmul, 1)) (k : gg p l e R s m args below meth c nL Q cells slots om lv (pc + 1) (.long (x * y) :: rest)) : gg p l e R s m args below meth c nL Q cells slots om lv pc (.long y :: .long x :: rest) := fun H locs ls ho hl => lv_lmul E.1 E.2.1 hd  (k H locs ls ho hl)
theorem g_land (E : gE p s m args c cc nL own V) {x y : Int64} (hd : decode cc pc = .ok (.land, 1)) (k : gg p l e R s m args below meth c nL Q cells slots om lv (pc + 1) (.long (x &&& y) :: rest)) : gg p l e R s m args below meth c nL Q cells slots om lv pc (.long y :: .long x :: rest) := fun H locs ls ho hl => lv_land E.1 E.2.1 hd  (k H locs ls ho hl)
theorem g_lor (E : gE p s m args c cc nL own V) {x y : Int64} (hd : decode cc pc = .ok (.lor, 1)) (k : gg p l e R s m args below meth c nL Q cells slots om lv (pc + 1) (.long (x ||| y) :: rest)) : gg p l e R s m args below meth c nL Q cells slots om lv pc (.long y :: .long x :: rest) := fun H locs ls ho hl => lv_lor E.1 E.2.1 hd  (k H locs ls ho hl)
theorem g_lxor (E : gE p s m args c cc nL own V) {x y : Int64} (hd : decode cc pc = .ok (.lxor, 1)) (k : gg p l e R s m args below meth c nL Q cells slots om lv (pc + 1) (.long (x ^^^ y) :: rest)) : gg p l e R s m args below meth c nL Q cells slots om lv pc (.long y :: .long x :: rest) := fun H locs ls ho hl => lv_lxor E.1 E.2.1 hd  (k H locs ls ho hl)
theorem g_ldiv (E : gE p s m args c cc nL own V) {x y : Int64} (hd : decode cc pc = .ok (.ldiv, 1)) (hne : ¬ y = 0) (k : gg p l e R s m args below meth c nL Q cells slots om lv (pc + 1) (.long (x / y) :: rest)) : gg p l e R s m args below meth c nL Q cells slots om lv pc (.long y :: .long x :: rest) := fun H locs ls ho hl => lv_ldiv E.1 E.2.1 hd hne (k H locs ls ho hl)
theorem g_lrem (E : gE p s m args c cc nL own V) {x y : Int64} (hd : decode cc pc = .ok (.lrem, 1)) (hne : ¬ y = 0) (k : gg p l e R s m args below meth c nL Q cells slots om lv (pc + 1) (.long (x - x / y * y) :: rest)) : gg p l e R s m args below meth c nL Q cells slots om lv pc (.long y :: .long x :: rest) := fun H locs ls ho hl => lv_lrem E.1 E.2.1 hd hne (k H locs ls ho hl)
theorem g_ineg (E : gE p s m args c cc nL own V) {x : Int32} (hd : decode cc pc = .ok (.ineg, 1)) (k : gg p l e R s m args below meth c nL Q cells slots om lv (pc + 1) (.int (-x) :: rest)) : gg p l e R s m args below meth c nL Q cells slots om lv pc (.int x :: rest) := fun H locs ls ho hl => lv_ineg E.1 E.2.1 hd  (k H locs ls ho hl)
theorem g_lneg (E : gE p s m args c cc nL own V) {x : Int64} (hd : decode cc pc = .ok (.lneg, 1)) (k : gg p l e R s m args below meth c nL Q cells slots om lv (pc + 1) (.long (-x) :: rest)) : gg p l e R s m args below meth c nL Q cells slots om lv pc (.long x :: rest) := fun H locs ls ho hl => lv_lneg E.1 E.2.1 hd  (k H locs ls ho hl)
theorem g_lcmp (E : gE p s m args c cc nL own V) {x y : Int64} (hd : decode cc pc = .ok (.lcmp, 1)) (k : gg p l e R s m args below meth c nL Q cells slots om lv (pc + 1) (.int (lg_cmp x y) :: rest)) : gg p l e R s m args below meth c nL Q cells slots om lv pc (.long y :: .long x :: rest) := fun H locs ls ho hl => W.lcmp E.1 E.2.1 hd  (k H locs ls ho hl)
theorem g_i2l (E : gE p s m args c cc nL own V) {x : Int32} (hd : decode cc pc = .ok (.i2l, 1)) (k : gg p l e R s m args below meth c nL Q cells slots om lv (pc + 1) (.long x.toInt64 :: rest)) : gg p l e R s m args below meth c nL Q cells slots om lv pc (.int x :: rest) := fun H locs ls ho hl => lv_i2l E.1 E.2.1 hd rfl (k H locs ls ho hl)
theorem g_l2i (E : gE p s m args c cc nL own V) {x : Int64} (hd : decode cc pc = .ok (.l2i, 1)) (k : gg p l e R s m args below meth c nL Q cells slots om lv (pc + 1) (.int x.toInt32 :: rest)) : gg p l e R s m args below meth c nL Q cells slots om lv pc (.long x :: rest) := fun H locs ls ho hl => lv_l2i E.1 E.2.1 hd rfl (k H locs ls ho hl)
theorem g_lshl (E : gE p s m args c cc nL own V) {x : Int64} {y : Int32} (hd : decode cc pc = .ok (.lshl, 1)) (k : gg p l e R s m args below meth c nL Q cells slots om lv (pc + 1) (.long (x <<< (y.toInt64 &&& 63)) :: rest)) : gg p l e R s m args below meth c nL Q cells slots om lv pc (.int y :: .long x :: rest) := fun H locs ls ho hl => lv_lshl E.1 E.2.1 hd rfl (k H locs ls ho hl)
theorem g_lshr (E : gE p s m args c cc nL own V) {x : Int64} {y : Int32} (hd : decode cc pc = .ok (.lshr, 1)) (k : gg p l e R s m args below meth c nL Q cells slots om lv (pc + 1) (.long (x >>> (y.toInt64 &&& 63)) :: rest)) : gg p l e R s m args below meth c nL Q cells slots om lv pc (.int y :: .long x :: rest) := fun H locs ls ho hl => lv_lshr E.1 E.2.1 hd rfl (k H locs ls ho hl)
theorem g_lushr (E : gE p s m args c cc nL own V) {x : Int64} {y : Int32} (hd : decode cc pc = .ok (.lushr, 1)) (k : gg p l e R s m args below meth c nL Q cells slots om lv (pc + 1) (.long (x.toUInt64 >>> (y.toInt64.toUInt64 &&& Int64.toUInt64 63)).toInt64 :: rest)) : gg p l e R s m args below meth c nL Q cells slots om lv pc (.int y :: .long x :: rest) := fun H locs ls ho hl => lv_lushr E.1 E.2.1 hd rfl (k H locs ls ho hl)
theorem g_iushr (E : gE p s m args c cc nL own V) {x y : Int32} (hd : decode cc pc = .ok (.iushr, 1)) (k : gg p l e R s m args below meth c nL Q cells slots om lv (pc + 1) (.int (x.toUInt32 >>> (y.toUInt32 &&& Int32.toUInt32 31)).toInt32 :: rest)) : gg p l e R s m args below meth c nL Q cells slots om lv pc (.int y :: .int x :: rest) := fun H locs ls ho hl => lv_iushr E.1 E.2.1 hd rfl (k H locs ls ho hl)
theorem g_iconst (E : gE p s m args c cc nL own V) {n : Int} {v : Int32} (hd : decode cc pc = .ok (.iconst n, 1)) (hv : Int32.ofInt n = v) (k : gg p l e R s m args below meth c nL Q cells slots om lv (pc + 1) (.int v :: rest)) : gg p l e R s m args below meth c nL Q cells slots om lv pc (rest) := fun H locs ls ho hl => lv_iconst E.1 E.2.1 hd hv (k H locs ls ho hl)
theorem g_bipush (E : gE p s m args c cc nL own V) {n : Int} {v : Int32} (hd : decode cc pc = .ok (.bipush n, 2)) (hv : (Int8.ofInt n).toInt32 = v) (k : gg p l e R s m args below meth c nL Q cells slots om lv (pc + 2) (.int v :: rest)) : gg p l e R s m args below meth c nL Q cells slots om lv pc (rest) := fun H locs ls ho hl => lv_bipush E.1 E.2.1 hd hv (k H locs ls ho hl)
theorem g_sipush (E : gE p s m args c cc nL own V) {n : Int} {v : Int32} (hd : decode cc pc = .ok (.sipush n, 3)) (hv : (Int16.ofInt n).toInt32 = v) (k : gg p l e R s m args below meth c nL Q cells slots om lv (pc + 3) (.int v :: rest)) : gg p l e R s m args below meth c nL Q cells slots om lv pc (rest) := fun H locs ls ho hl => lv_sipush E.1 E.2.1 hd hv (k H locs ls ho hl)
theorem g_lconst (E : gE p s m args c cc nL own V) {n : Fin 2} {v : Int64} (hd : decode cc pc = .ok (.lconst n, 1)) (hv : Int64.ofNat (n : Nat) = v) (k : gg p l e R s m args below meth c nL Q cells slots om lv (pc + 1) (.long v :: rest)) : gg p l e R s m args below meth c nL Q cells slots om lv pc (rest) := fun H locs ls ho hl => lv_lconst E.1 E.2.1 hd hv (k H locs ls ho hl)
theorem g_null (E : gE p s m args c cc nL own V)  (hd : decode cc pc = .ok (.aconst_null, 1)) (k : gg p l e R s m args below meth c nL Q cells slots om lv (pc + 1) (.null :: rest)) : gg p l e R s m args below meth c nL Q cells slots om lv pc (rest) := fun H locs ls ho hl => lv_null E.1 E.2.1 hd  (k H locs ls ho hl)
theorem g_iload_n (E : gE p s m args c cc nL own V) {j : Fin 4} {i : Nat} {x : Int32} (hd : decode cc pc = .ok (.iload_n j, 1)) (hi : (j : Nat) = i) (k0 : Nat) (hk : lv[k0]? = some (i, .int x)) (k : gg p l e R s m args below meth c nL Q cells slots om lv (pc + 1) (.int x :: rest)) : gg p l e R s m args below meth c nL Q cells slots om lv pc (rest) := fun H locs ls ho hl => lv_iload_n E.1 E.2.1 hd hi (lv_at hl k0 hk) (k H locs ls ho hl)
theorem g_iload (E : gE p s m args c cc nL own V) {i : Nat} {x : Int32} (hd : decode cc pc = .ok (.iload i, 2)) (k0 : Nat) (hk : lv[k0]? = some (i, .int x)) (k : gg p l e R s m args below meth c nL Q cells slots om lv (pc + 2) (.int x :: rest)) : gg p l e R s m args below meth c nL Q cells slots om lv pc (rest) := fun H locs ls ho hl => lv_iload E.1 E.2.1 hd (lv_at hl k0 hk) (k H locs ls ho hl)
theorem g_istore_n (E : gE p s m args c cc nL own V) {j : Fin 4} {i : Nat} {x : Int32} {lv' : List (Nat × Value)} (hd : decode cc pc = .ok (.istore_n j, 1)) (hi : (j : Nat) = i) (hn : i < nL) (hv : (i, Value.int x) :: lv.filter (fun q => !(q.1 == i) && !(q.1 + 1 == i && q.2.category == 2)) = lv') (k : gg p l e R s m args below meth c nL Q cells slots om lv' (pc + 1) rest) : gg p l e R s m args below meth c nL Q cells slots om lv pc (.int x :: rest) := fun H locs ls ho hl => lv_istore_n E.1 E.2.1 hd hi hl hn hv (fun ls' hl' => k H locs ls' ho hl')
theorem g_istore (E : gE p s m args c cc nL own V) {i : Nat} {x : Int32} {lv' : List (Nat × Value)} (hd : decode cc pc = .ok (.istore i, 2)) (hn : i < nL) (hv : (i, Value.int x) :: lv.filter (fun q => !(q.1 == i) && !(q.1 + 1 == i && q.2.category == 2)) = lv') (k : gg p l e R s m args below meth c nL Q cells slots om lv' (pc + 2) rest) : gg p l e R s m args below meth c nL Q cells slots om lv pc (.int x :: rest) := fun H locs ls ho hl => lv_istore E.1 E.2.1 hd hl hn hv (fun ls' hl' => k H locs ls' ho hl')
theorem g_lload_n (E : gE p s m args c cc nL own V) {j : Fin 4} {i : Nat} {x : Int64} (hd : decode cc pc = .ok (.lload_n j, 1)) (hi : (j : Nat) = i) (k0 : Nat) (hk : lv[k0]? = some (i, .long x)) (k : gg p l e R s m args below meth c nL Q cells slots om lv (pc + 1) (.long x :: rest)) : gg p l e R s m args below meth c nL Q cells slots om lv pc (rest) := fun H locs ls ho hl => lv_lload_n E.1 E.2.1 hd hi (lv_at hl k0 hk) (k H locs ls ho hl)
theorem g_lload (E : gE p s m args c cc nL own V) {i : Nat} {x : Int64} (hd : decode cc pc = .ok (.lload i, 2)) (k0 : Nat) (hk : lv[k0]? = some (i, .long x)) (k : gg p l e R s m args below meth c nL Q cells slots om lv (pc + 2) (.long x :: rest)) : gg p l e R s m args below meth c nL Q cells slots om lv pc (rest) := fun H locs ls ho hl => lv_lload E.1 E.2.1 hd (lv_at hl k0 hk) (k H locs ls ho hl)
theorem g_lstore_n (E : gE p s m args c cc nL own V) {j : Fin 4} {i : Nat} {x : Int64} {lv' : List (Nat × Value)} (hd : decode cc pc = .ok (.lstore_n j, 1)) (hi : (j : Nat) = i) (hn : i + 1 < nL) (hv : (i, Value.long x) :: lv.filter (fun q => !(q.1 == i) && (!(q.1 == i + 1) && !(q.1 + 1 == i && q.2.category == 2))) = lv') (k : gg p l e R s m args below meth c nL Q cells slots om lv' (pc + 1) rest) : gg p l e R s m args below meth c nL Q cells slots om lv pc (.long x :: rest) := fun H locs ls ho hl => lv_lstore_n E.1 E.2.1 hd hi hl hn hv (fun ls' hl' => k H locs ls' ho hl')
theorem g_lstore (E : gE p s m args c cc nL own V) {i : Nat} {x : Int64} {lv' : List (Nat × Value)} (hd : decode cc pc = .ok (.lstore i, 2)) (hn : i + 1 < nL) (hv : (i, Value.long x) :: lv.filter (fun q => !(q.1 == i) && (!(q.1 == i + 1) && !(q.1 + 1 == i && q.2.category == 2))) = lv') (k : gg p l e R s m args below meth c nL Q cells slots om lv' (pc + 2) rest) : gg p l e R s m args below meth c nL Q cells slots om lv pc (.long x :: rest) := fun H locs ls ho hl => lv_lstore E.1 E.2.1 hd hl hn hv (fun ls' hl' => k H locs ls' ho hl')
theorem g_aload_n (E : gE p s m args c cc nL own V) {j : Fin 4} {i : Nat} {x : Nat} (hd : decode cc pc = .ok (.aload_n j, 1)) (hi : (j : Nat) = i) (k0 : Nat) (hk : lv[k0]? = some (i, .ref x)) (k : gg p l e R s m args below meth c nL Q cells slots om lv (pc + 1) (.ref x :: rest)) : gg p l e R s m args below meth c nL Q cells slots om lv pc (rest) := fun H locs ls ho hl => lv_aload_n E.1 E.2.1 hd hi (lv_at hl k0 hk) (k H locs ls ho hl)
theorem g_aload (E : gE p s m args c cc nL own V) {i : Nat} {x : Nat} (hd : decode cc pc = .ok (.aload i, 2)) (k0 : Nat) (hk : lv[k0]? = some (i, .ref x)) (k : gg p l e R s m args below meth c nL Q cells slots om lv (pc + 2) (.ref x :: rest)) : gg p l e R s m args below meth c nL Q cells slots om lv pc (rest) := fun H locs ls ho hl => lv_aload E.1 E.2.1 hd (lv_at hl k0 hk) (k H locs ls ho hl)
theorem g_astore_n (E : gE p s m args c cc nL own V) {j : Fin 4} {i : Nat} {x : Nat} {lv' : List (Nat × Value)} (hd : decode cc pc = .ok (.astore_n j, 1)) (hi : (j : Nat) = i) (hn : i < nL) (hv : (i, Value.ref x) :: lv.filter (fun q => !(q.1 == i) && !(q.1 + 1 == i && q.2.category == 2)) = lv') (k : gg p l e R s m args below meth c nL Q cells slots om lv' (pc + 1) rest) : gg p l e R s m args below meth c nL Q cells slots om lv pc (.ref x :: rest) := fun H locs ls ho hl => lv_astore_n E.1 E.2.1 hd hi hl hn hv (fun ls' hl' => k H locs ls' ho hl')
theorem g_astore (E : gE p s m args c cc nL own V) {i : Nat} {x : Nat} {lv' : List (Nat × Value)} (hd : decode cc pc = .ok (.astore i, 2)) (hn : i < nL) (hv : (i, Value.ref x) :: lv.filter (fun q => !(q.1 == i) && !(q.1 + 1 == i && q.2.category == 2)) = lv') (k : gg p l e R s m args below meth c nL Q cells slots om lv' (pc + 2) rest) : gg p l e R s m args below meth c nL Q cells slots om lv pc (.ref x :: rest) := fun H locs ls ho hl => lv_astore E.1 E.2.1 hd hl hn hv (fun ls' hl' => k H locs ls' ho hl')
theorem g_iinc (E : gE p s m args c cc nL own V) {i : Nat} {n : Int} {x v : Int32} {lv' : List (Nat × Value)} (hd : decode cc pc = .ok (.iinc i n, 3)) (k0 : Nat) (hk : lv[k0]? = some (i, .int x)) (hx : x + Int32.ofInt n = v) (hn : i < nL) (hv : (i, Value.int v) :: lv.filter (fun q => !(q.1 == i) && !(q.1 + 1 == i && q.2.category == 2)) = lv') (k : gg p l e R s m args below meth c nL Q cells slots om lv' (pc + 3) rest) : gg p l e R s m args below meth c nL Q cells slots om lv pc rest := fun H locs ls ho hl => lv_iinc E.1 E.2.1 hd hl hk hx hn hv (fun ls' hl' => k H locs ls' ho hl')
theorem g_dup (E : gE p s m args c cc nL own V) {va : Value} (hd : decode cc pc = .ok (.dup, 1)) (hva : va.category = 1) (k : gg p l e R s m args below meth c nL Q cells slots om lv (pc + 1) (va :: va :: rest)) : gg p l e R s m args below meth c nL Q cells slots om lv pc (va :: rest) := fun H locs ls ho hl => lv_dup E.1 E.2.1 hd hva (k H locs ls ho hl)
theorem g_pop (E : gE p s m args c cc nL own V) {va : Value} (hd : decode cc pc = .ok (.pop, 1)) (hva : va.category = 1) (k : gg p l e R s m args below meth c nL Q cells slots om lv (pc + 1) (rest)) : gg p l e R s m args below meth c nL Q cells slots om lv pc (va :: rest) := fun H locs ls ho hl => lv_pop E.1 E.2.1 hd hva (k H locs ls ho hl)
theorem g_pop2 (E : gE p s m args c cc nL own V) {va : Value} (hd : decode cc pc = .ok (.pop2, 1)) (hva : va.category = 2) (k : gg p l e R s m args below meth c nL Q cells slots om lv (pc + 1) (rest)) : gg p l e R s m args below meth c nL Q cells slots om lv pc (va :: rest) := fun H locs ls ho hl => lv_pop2_2 E.1 E.2.1 hd hva (k H locs ls ho hl)
theorem g_dup_x1 (E : gE p s m args c cc nL own V) {va vb : Value} (hd : decode cc pc = .ok (.dup_x1, 1)) (hva : va.category = 1) (hvb : vb.category = 1) (k : gg p l e R s m args below meth c nL Q cells slots om lv (pc + 1) (va :: vb :: va :: rest)) : gg p l e R s m args below meth c nL Q cells slots om lv pc (va :: vb :: rest) := fun H locs ls ho hl => lv_dup_x1 E.1 E.2.1 hd hva hvb (k H locs ls ho hl)
theorem g_dup_x2 (E : gE p s m args c cc nL own V) {va vb vd : Value} (hd : decode cc pc = .ok (.dup_x2, 1)) (hva : va.category = 1) (hvb : vb.category = 1) (hvd : vd.category = 1) (k : gg p l e R s m args below meth c nL Q cells slots om lv (pc + 1) (va :: vb :: vd :: va :: rest)) : gg p l e R s m args below meth c nL Q cells slots om lv pc (va :: vb :: vd :: rest) := fun H locs ls ho hl => lv_dup_x2 E.1 E.2.1 hd hva hvb hvd (k H locs ls ho hl)
theorem g_dup2 (E : gE p s m args c cc nL own V) {va vb : Value} (hd : decode cc pc = .ok (.dup2, 1)) (hva : va.category = 1) (hvb : vb.category = 1) (k : gg p l e R s m args below meth c nL Q cells slots om lv (pc + 1) (va :: vb :: va :: vb :: rest)) : gg p l e R s m args below meth c nL Q cells slots om lv pc (va :: vb :: rest) := fun H locs ls ho hl => lv_dup2_11 E.1 E.2.1 hd hva hvb (k H locs ls ho hl)
theorem g_dup2_2 (E : gE p s m args c cc nL own V) {va : Value} (hd : decode cc pc = .ok (.dup2, 1)) (hva : va.category = 2) (k : gg p l e R s m args below meth c nL Q cells slots om lv (pc + 1) (va :: va :: rest)) : gg p l e R s m args below meth c nL Q cells slots om lv pc (va :: rest) := fun H locs ls ho hl => lv_dup2_2 E.1 E.2.1 hd hva (k H locs ls ho hl)
theorem g_dup2_x1 (E : gE p s m args c cc nL own V) {va vb : Value} (hd : decode cc pc = .ok (.dup2_x1, 1)) (hva : va.category = 2) (hvb : vb.category = 1) (k : gg p l e R s m args below meth c nL Q cells slots om lv (pc + 1) (va :: vb :: va :: rest)) : gg p l e R s m args below meth c nL Q cells slots om lv pc (va :: vb :: rest) := fun H locs ls ho hl => lv_dup2_x1_2 E.1 E.2.1 hd hva hvb (k H locs ls ho hl)
theorem g_dup2_x2 (E : gE p s m args c cc nL own V) {va vb vd : Value} (hd : decode cc pc = .ok (.dup2_x2, 1)) (hva : va.category = 2) (hvb : vb.category = 1) (hvd : vd.category = 1) (k : gg p l e R s m args below meth c nL Q cells slots om lv (pc + 1) (va :: vb :: vd :: va :: rest)) : gg p l e R s m args below meth c nL Q cells slots om lv pc (va :: vb :: vd :: rest) := fun H locs ls ho hl => lv_dup2_x2_2 E.1 E.2.1 hd hva hvb hvd (k H locs ls ho hl)
theorem g_if_eq (E : gE p s m args c cc nL own V) {x : Int32} {off : Int} (tgt : Nat) (hd : decode cc pc = .ok (.ifCond .eq off, 3)) (ht : (pc : Int) + off = (tgt : Int)) (kt : x = 0 → gg p l e R s m args below meth c nL Q cells slots om lv tgt rest) (kf : ¬ x = 0 → gg p l e R s m args below meth c nL Q cells slots om lv (pc + 3) rest) : gg p l e R s m args below meth c nL Q cells slots om lv pc (.int x :: rest) := fun H locs ls ho hl => lv_if_eq E.1 E.2.1 hd ht (fun q => kt q H locs ls ho hl) (fun q => kf q H locs ls ho hl)
theorem g_icmp_eq (E : gE p s m args c cc nL own V) {x y : Int32} {off : Int} (tgt : Nat) (hd : decode cc pc = .ok (.if_icmp .eq off, 3)) (ht : (pc : Int) + off = (tgt : Int)) (kt : x = y → gg p l e R s m args below meth c nL Q cells slots om lv tgt rest) (kf : ¬ x = y → gg p l e R s m args below meth c nL Q cells slots om lv (pc + 3) rest) : gg p l e R s m args below meth c nL Q cells slots om lv pc (.int y :: .int x :: rest) := fun H locs ls ho hl => lv_icmp_eq E.1 E.2.1 hd ht (fun q => kt q H locs ls ho hl) (fun q => kf q H locs ls ho hl)
theorem g_if_ne (E : gE p s m args c cc nL own V) {x : Int32} {off : Int} (tgt : Nat) (hd : decode cc pc = .ok (.ifCond .ne off, 3)) (ht : (pc : Int) + off = (tgt : Int)) (kt : ¬ x = 0 → gg p l e R s m args below meth c nL Q cells slots om lv tgt rest) (kf : x = 0 → gg p l e R s m args below meth c nL Q cells slots om lv (pc + 3) rest) : gg p l e R s m args below meth c nL Q cells slots om lv pc (.int x :: rest) := fun H locs ls ho hl => lv_if_ne E.1 E.2.1 hd ht (fun q => kt q H locs ls ho hl) (fun q => kf q H locs ls ho hl)
theorem g_icmp_ne (E : gE p s m args c cc nL own V) {x y : Int32} {off : Int} (tgt : Nat) (hd : decode cc pc = .ok (.if_icmp .ne off, 3)) (ht : (pc : Int) + off = (tgt : Int)) (kt : ¬ x = y → gg p l e R s m args below meth c nL Q cells slots om lv tgt rest) (kf : x = y → gg p l e R s m args below meth c nL Q cells slots om lv (pc + 3) rest) : gg p l e R s m args below meth c nL Q cells slots om lv pc (.int y :: .int x :: rest) := fun H locs ls ho hl => lv_icmp_ne E.1 E.2.1 hd ht (fun q => kt q H locs ls ho hl) (fun q => kf q H locs ls ho hl)
theorem g_if_lt (E : gE p s m args c cc nL own V) {x : Int32} {off : Int} (tgt : Nat) (hd : decode cc pc = .ok (.ifCond .lt off, 3)) (ht : (pc : Int) + off = (tgt : Int)) (kt : x < 0 → gg p l e R s m args below meth c nL Q cells slots om lv tgt rest) (kf : ¬ x < 0 → gg p l e R s m args below meth c nL Q cells slots om lv (pc + 3) rest) : gg p l e R s m args below meth c nL Q cells slots om lv pc (.int x :: rest) := fun H locs ls ho hl => lv_if_lt E.1 E.2.1 hd ht (fun q => kt q H locs ls ho hl) (fun q => kf q H locs ls ho hl)
theorem g_icmp_lt (E : gE p s m args c cc nL own V) {x y : Int32} {off : Int} (tgt : Nat) (hd : decode cc pc = .ok (.if_icmp .lt off, 3)) (ht : (pc : Int) + off = (tgt : Int)) (kt : x < y → gg p l e R s m args below meth c nL Q cells slots om lv tgt rest) (kf : ¬ x < y → gg p l e R s m args below meth c nL Q cells slots om lv (pc + 3) rest) : gg p l e R s m args below meth c nL Q cells slots om lv pc (.int y :: .int x :: rest) := fun H locs ls ho hl => lv_icmp_lt E.1 E.2.1 hd ht (fun q => kt q H locs ls ho hl) (fun q => kf q H locs ls ho hl)
theorem g_if_ge (E : gE p s m args c cc nL own V) {x : Int32} {off : Int} (tgt : Nat) (hd : decode cc pc = .ok (.ifCond .ge off, 3)) (ht : (pc : Int) + off = (tgt : Int)) (kt : 0 ≤ x → gg p l e R s m args below meth c nL Q cells slots om lv tgt rest) (kf : ¬ 0 ≤ x → gg p l e R s m args below meth c nL Q cells slots om lv (pc + 3) rest) : gg p l e R s m args below meth c nL Q cells slots om lv pc (.int x :: rest) := fun H locs ls ho hl => lv_if_ge E.1 E.2.1 hd ht (fun q => kt q H locs ls ho hl) (fun q => kf q H locs ls ho hl)
theorem g_icmp_ge (E : gE p s m args c cc nL own V) {x y : Int32} {off : Int} (tgt : Nat) (hd : decode cc pc = .ok (.if_icmp .ge off, 3)) (ht : (pc : Int) + off = (tgt : Int)) (kt : y ≤ x → gg p l e R s m args below meth c nL Q cells slots om lv tgt rest) (kf : ¬ y ≤ x → gg p l e R s m args below meth c nL Q cells slots om lv (pc + 3) rest) : gg p l e R s m args below meth c nL Q cells slots om lv pc (.int y :: .int x :: rest) := fun H locs ls ho hl => lv_icmp_ge E.1 E.2.1 hd ht (fun q => kt q H locs ls ho hl) (fun q => kf q H locs ls ho hl)
theorem g_if_gt (E : gE p s m args c cc nL own V) {x : Int32} {off : Int} (tgt : Nat) (hd : decode cc pc = .ok (.ifCond .gt off, 3)) (ht : (pc : Int) + off = (tgt : Int)) (kt : 0 < x → gg p l e R s m args below meth c nL Q cells slots om lv tgt rest) (kf : ¬ 0 < x → gg p l e R s m args below meth c nL Q cells slots om lv (pc + 3) rest) : gg p l e R s m args below meth c nL Q cells slots om lv pc (.int x :: rest) := fun H locs ls ho hl => lv_if_gt E.1 E.2.1 hd ht (fun q => kt q H locs ls ho hl) (fun q => kf q H locs ls ho hl)
theorem g_icmp_gt (E : gE p s m args c cc nL own V) {x y : Int32} {off : Int} (tgt : Nat) (hd : decode cc pc = .ok (.if_icmp .gt off, 3)) (ht : (pc : Int) + off = (tgt : Int)) (kt : y < x → gg p l e R s m args below meth c nL Q cells slots om lv tgt rest) (kf : ¬ y < x → gg p l e R s m args below meth c nL Q cells slots om lv (pc + 3) rest) : gg p l e R s m args below meth c nL Q cells slots om lv pc (.int y :: .int x :: rest) := fun H locs ls ho hl => lv_icmp_gt E.1 E.2.1 hd ht (fun q => kt q H locs ls ho hl) (fun q => kf q H locs ls ho hl)
theorem g_if_le (E : gE p s m args c cc nL own V) {x : Int32} {off : Int} (tgt : Nat) (hd : decode cc pc = .ok (.ifCond .le off, 3)) (ht : (pc : Int) + off = (tgt : Int)) (kt : x ≤ 0 → gg p l e R s m args below meth c nL Q cells slots om lv tgt rest) (kf : ¬ x ≤ 0 → gg p l e R s m args below meth c nL Q cells slots om lv (pc + 3) rest) : gg p l e R s m args below meth c nL Q cells slots om lv pc (.int x :: rest) := fun H locs ls ho hl => lv_if_le E.1 E.2.1 hd ht (fun q => kt q H locs ls ho hl) (fun q => kf q H locs ls ho hl)
theorem g_icmp_le (E : gE p s m args c cc nL own V) {x y : Int32} {off : Int} (tgt : Nat) (hd : decode cc pc = .ok (.if_icmp .le off, 3)) (ht : (pc : Int) + off = (tgt : Int)) (kt : x ≤ y → gg p l e R s m args below meth c nL Q cells slots om lv tgt rest) (kf : ¬ x ≤ y → gg p l e R s m args below meth c nL Q cells slots om lv (pc + 3) rest) : gg p l e R s m args below meth c nL Q cells slots om lv pc (.int y :: .int x :: rest) := fun H locs ls ho hl => lv_icmp_le E.1 E.2.1 hd ht (fun q => kt q H locs ls ho hl) (fun q => kf q H locs ls ho hl)
theorem g_goto (E : gE p s m args c cc nL own V) {off : Int} (tgt : Nat) (hd : decode cc pc = .ok (.goto off, 3)) (ht : (pc : Int) + off = (tgt : Int)) (k : gg p l e R s m args below meth c nL Q cells slots om lv tgt rest) : gg p l e R s m args below meth c nL Q cells slots om lv pc rest := fun H locs ls ho hl => lv_goto E.1 E.2.1 hd ht (k H locs ls ho hl)
theorem g_lv {lv' : List (Nat × Value)} (ks : List Nat) (h : lv_pick lv ks = lv') (k : gg p l e R s m args below meth c nL Q cells slots om lv' pc rest) : gg p l e R s m args below meth c nL Q cells slots om lv pc rest := fun H locs ls ho hl => k H locs ls ho (lv_sub hl ks h)
theorem g_topi {x x' : Int32} (h : x = x') (k : gg p l e R s m args below meth c nL Q cells slots om lv pc (.int x' :: rest)) : gg p l e R s m args below meth c nL Q cells slots om lv pc (.int x :: rest) := h ▸ k
theorem g_topl {x x' : Int64} (h : x = x') (k : gg p l e R s m args below meth c nL Q cells slots om lv pc (.long x' :: rest)) : gg p l e R s m args below meth c nL Q cells slots om lv pc (.long x :: rest) := h ▸ k
theorem g_ws {ws' : va_W} (h : ws = ws') (k : gg p l e R s m args below meth c nL Q cells slots (gW V A H0 ws') lv pc rest) : gg p l e R s m args below meth c nL Q cells slots (gW V A H0 ws) lv pc rest := h ▸ k
theorem g_pc {pc' : Nat} (h : pc = pc') (k : gg p l e R s m args below meth c nL Q cells slots om lv pc' rest) : gg p l e R s m args below meth c nL Q cells slots om lv pc rest := h ▸ k
theorem g_st {st' : List Value} (h : rest = st') (k : gg p l e R s m args below meth c nL Q cells slots om lv pc st') : gg p l e R s m args below meth c nL Q cells slots om lv pc rest := h ▸ k
theorem g_wide {k n : Nat} (h1 : cells ≤ k) (h2 : slots ≤ n) (kk : gg p l e R s m args below meth c nL Q k n om lv pc rest) : gg p l e R s m args below meth c nL Q cells slots om lv pc rest := fun H locs ls ho hl => W.widen h1 h2 (kk H locs ls ho hl)
theorem g_ldc (E : gE p s m args c cc nL own V) {index : Nat} {v : Int32} (hc : Cond.constant own index v ∈ gt) (hd : decode cc pc = .ok (.ldc index, 2)) (k : gg p l e R s m args below meth c nL Q cells slots om lv (pc + 2) (.int v :: rest)) : gg p l e R s m args below meth c nL Q cells slots om lv pc rest := fun H locs ls ho hl => lv_ldc E.1 E.2.1 E.2.2.2.1 (E.2.2.2.2.1 _ hc) hd (k H locs ls ho hl)
theorem g_ldc2 (E : gE p s m args c cc nL own V) {index : Nat} {v : Int64} (hc : Cond.constantLong own index v ∈ gt) (hd : decode cc pc = .ok (.ldc2_w index, 3)) (k : gg p l e R s m args below meth c nL Q cells slots om lv (pc + 3) (.long v :: rest)) : gg p l e R s m args below meth c nL Q cells slots om lv pc rest := fun H locs ls ho hl => lv_ldc2 E.1 E.2.1 E.2.2.2.1 (E.2.2.2.2.1 _ hc) hd (k H locs ls ho hl)
theorem g_get (E : gE p s m args c cc nL own V) {ref C : String} {T : u_T} {N ci index : Nat} {a : Nat} (hin : ∀ w ∈ u_ws C T N, w ∈ gt) (hO : gO om V ws) (q0 : Nat) {fs : List Value} (he : ws[q0]? = some (a, .inr (ci, fs))) (hc : clz[ci]? = some (C, T, N)) (k0 : Nat) (hk : k0 < N) (hlink : Cond.fieldLink own index ref (T k0).2.1 (T k0).2.2.1 ∈ gt) (hsame : (T k0).1 = ref) {v : Value} (hv : fs[k0]? = some v) (hd : decode cc pc = .ok (.getfield index, 3)) (k : gg p l e R s m args below meth c nL Q cells slots om lv (pc + 3) (v :: rest)) : gg p l e R s m args below meth c nL Q cells slots om lv pc (.ref a :: rest) := fun H locs ls ho hl => va_get E.1 E.2.1 E.2.2.2.2.1 hin E.2.2.2.1 E.2.2.2.2.2.1 (hO H locs ho) q0 he hc k0 hk (E.2.2.2.2.1 _ hlink) (fun x h => hsame ▸ h) hv hd (k H locs ls ho hl)
theorem g_put (E : gE p s m args c cc nL own V) {ref C : String} {T : u_T} {N ci index : Nat} {a : Nat} (hin : ∀ w ∈ u_ws C T N, w ∈ gt) (ty0 : Nat → FieldType) (hty : ∀ k, k < N → parseFieldDescriptor (T k).2.2.1 = some (ty0 k)) (hnm : ∀ a, a < N → ∀ b, b < N → a ≠ b → (T a).2.1 ≠ (T b).2.1) (q0 : Nat) {fs : List Value} (he : ws[q0]? = some (a, .inr (ci, fs))) (hc : clz[ci]? = some (C, T, N)) (k0 : Nat) (hk : k0 < N) (hlink : Cond.fieldLink own index ref (T k0).2.1 (T k0).2.2.1 ∈ gt) (hsame : (T k0).1 = ref) (hfin : (T k0).2.2.2 = false) {ty : FieldType} {v : Value} (hdn : parseFieldDescriptor (T k0).2.2.1 = some ty) (hn : narrow ty v = v) (hfit : fits ty v = true) (hl0 : k0 < fs.length) {ws' : va_W} (hw : ws.set q0 (a, .inr (ci, fs.set k0 v)) = ws') (hd : decode cc pc = .ok (.putfield index, 3)) (k : gg p l e R s m args below meth c nL Q cells slots (gW V A H0 ws') lv (pc + 3) rest) : gg p l e R s m args below meth c nL Q cells slots (gW V A H0 ws) lv pc (v :: .ref a :: rest) := fun H locs ls ho hl => va_put E.1 E.2.1 E.2.2.2.2.1 hin ty0 hty hnm E.2.2.2.1 E.2.2.2.2.2.1 ho.1 ho.2.1 ho.2.2 q0 he hc k0 hk (E.2.2.2.2.1 _ hlink) (fun x h => hsame ▸ h) hfin hdn hn hfit hl0 hd (fun H1 locs1 hP1 hD1 hS1 => k H1 locs1 ls ⟨hw ▸ hP1, hw ▸ hD1, hS1⟩ hl)
theorem g_iaload (E : gE p s m args c cc nL own V) (hO : gO om V ws) (q0 t0 : Nat) {a : Nat} {cA : ClassId} {n : Nat} {f : Nat → Int32} (ha : ws[q0]? = some (a, .inl (cA, n, .inl f))) (ht : (tz V)[t0]? = some (cA, .int)) {i : Nat} (hi : i < n) (hn : n < 2 ^ 31) (hd : decode cc pc = .ok (.iaload, 1)) (k : gg p l e R s m args below meth c nL Q cells slots om lv (pc + 1) (.int (f i) :: rest)) : gg p l e R s m args below meth c nL Q cells slots om lv pc (.int (nI i) :: .ref a :: rest) := fun H locs ls ho hl => va_iald E.1 E.2.1 E.2.2.2.2.2.1 (hO H locs ho) q0 t0 ha ht (vp_in_nI hi hn) hd (by rw [nI_clamp (by omega)]; exact k H locs ls ho hl)
theorem g_iastore (E : gE p s m args c cc nL own V) (q0 t0 : Nat) {a : Nat} {cA : ClassId} {n : Nat} {f : Nat → Int32} (ha : ws[q0]? = some (a, .inl (cA, n, .inl f))) (ht : (tz V)[t0]? = some (cA, .int)) {i : Nat} {x : Int32} (hi : i < n) (hn : n < 2 ^ 31) {ws' : va_W} (hw : ws.set q0 (a, .inl (cA, n, .inl (upd f i x))) = ws') (hd : decode cc pc = .ok (.iastore, 1)) (k : gg p l e R s m args below meth c nL Q cells slots (gW V A H0 ws') lv (pc + 1) rest) : gg p l e R s m args below meth c nL Q cells slots (gW V A H0 ws) lv pc (.int x :: .int (nI i) :: .ref a :: rest) := fun H locs ls ho hl => va_iast E.1 E.2.1 E.2.2.2.2.2.1 ho.1 ho.2.1 ho.2.2 q0 t0 ha ht (vp_in_nI hi hn) hd (fun H1 locs1 hP1 hD1 hS1 => by rw [nI_clamp (by omega), hw] at hP1 hD1; exact k H1 locs1 ls ⟨hP1, hD1, hS1⟩ hl)
theorem g_laload (E : gE p s m args c cc nL own V) (hO : gO om V ws) (q0 t0 : Nat) {a : Nat} {cA : ClassId} {n : Nat} {f : Nat → Int64} (ha : ws[q0]? = some (a, .inl (cA, n, .inr (.inl f)))) (ht : (tz V)[t0]? = some (cA, .long)) {i : Nat} (hi : i < n) (hn : n < 2 ^ 31) (hd : decode cc pc = .ok (.laload, 1)) (k : gg p l e R s m args below meth c nL Q cells slots om lv (pc + 1) (.long (f i) :: rest)) : gg p l e R s m args below meth c nL Q cells slots om lv pc (.int (nI i) :: .ref a :: rest) := fun H locs ls ho hl => va_lald E.1 E.2.1 E.2.2.2.2.2.1 (hO H locs ho) q0 t0 ha ht (vp_in_nI hi hn) hd (by rw [nI_clamp (by omega)]; exact k H locs ls ho hl)
theorem g_lastore (E : gE p s m args c cc nL own V) (q0 t0 : Nat) {a : Nat} {cA : ClassId} {n : Nat} {f : Nat → Int64} (ha : ws[q0]? = some (a, .inl (cA, n, .inr (.inl f)))) (ht : (tz V)[t0]? = some (cA, .long)) {i : Nat} {x : Int64} (hi : i < n) (hn : n < 2 ^ 31) {ws' : va_W} (hw : ws.set q0 (a, .inl (cA, n, .inr (.inl (vp_updL f i x)))) = ws') (hd : decode cc pc = .ok (.lastore, 1)) (k : gg p l e R s m args below meth c nL Q cells slots (gW V A H0 ws') lv (pc + 1) rest) : gg p l e R s m args below meth c nL Q cells slots (gW V A H0 ws) lv pc (.long x :: .int (nI i) :: .ref a :: rest) := fun H locs ls ho hl => va_last E.1 E.2.1 E.2.2.2.2.2.1 ho.1 ho.2.1 ho.2.2 q0 t0 ha ht (vp_in_nI hi hn) hd (fun H1 locs1 hP1 hD1 hS1 => by rw [nI_clamp (by omega), hw] at hP1 hD1; exact k H1 locs1 ls ⟨hP1, hD1, hS1⟩ hl)
end GR
end
section
/-! Contracts in two shapes: a method that only reads (cP, its answer vp_Si, vp_Sl, va_Sv), a method that writes its world (cW, va_Qi ..); how a walk gives a contract, how a call uses one. -/
def cP (V : gV) (w : va_W) (As : List Value) : Array Value → State → Prop := va_Pc As (fun U => va_P V.1 clz w U.heap ∧ gK V U)
theorem cP.blind {V : gV} {w : va_W} {As : List Value} : FrameBlind (cP V w As) := fun _ U g mk q => ⟨q.1, q.2.1, gK.vm (s := U) rfl q.2.2⟩
def cW (V : gV) (w : va_W) (sz : Nat) (As : List Value) : Array Value → State → Prop := va_Pc As (fun U => U.heap.size = sz ∧ va_P V.1 clz w U.heap ∧ gK V U ∧ va_D (fun _ => True) w)
theorem cW.blind {V : gV} {w : va_W} {sz : Nat} {As : List Value} : FrameBlind (cW V w sz As) := fun _ U g mk q => ⟨q.1, q.2.1, q.2.2.1, gK.vm (s := U) rfl q.2.2.2.1, q.2.2.2.2⟩
/-- the world behind a method that had w -/
def cB (V : gV) (w : va_W) (sz : Nat) {S : Type} (w1 : S → va_W) (u : S) (t : State) : Prop := va_P V.1 clz (w1 u) t.heap ∧ va_D (va_A w sz) (w1 u)
section GM
variable {l : Launch} {y : MethodName} {ws : List Cond} {rm : Room} {V : gV} {w : va_W} {As : List Value} {Qc : Array Value → State → Outcome → State → Prop} {mc ms : Nat} {free : Addr → Prop} {cc : ByteArray} {maxL : Nat} {ret : Option FieldType} {sz : Nat}
theorem gMet (hy : plainName y.cls = true) (hw : ws = Cond.code y cc maxL ret :: gt) (hA : (lg_sl As).length ≤ maxL) {Pc : Array Value → State → Prop} (hPc : ∀ a U, Pc a U → a = As.toArray ∧ gK V U)
    (body : ∀ (p : Program) (e : Env) (s : State) (m : MethodId) (below : List Frame) (meth : Method) (c : Code), gE p s m As.toArray c cc maxL y.cls V → meth.sig.returnType = ret → meth.locks = false → meth.name = y.name → Pc As.toArray s →
      gg p l e rm s m As.toArray below meth c maxL (MQ below Qc As.toArray s mc ms free) 0 0 (gR s.heap []) (lv_args 0 As) 0 []) : Met l y ws rm Pc Qc mc ms free := by
  refine Met.ofW (cc := cc) (maxL := maxL) (ret := ret) hy hw ?_
  intro p e s m args below meth c s₁ B hml hv
  obtain ⟨rfl, hK⟩ := hPc _ _ hv
  have hts := atoms_spec (ws := ws) B.pre
  have E : gE p s m As.toArray c cc maxL y.cls V := ⟨B.exec, B.bytes, hml, findClass_of_methodNamed B.named, fun w h => hts w (by rw [hw]; exact List.mem_cons_of_mem _ h), hK⟩
  rw [lg_entry_eq]
  exact body p e s m below meth c E B.returns B.notSynchronized (name_of_methodNamed B.named B.method).1 hv s.heap [] _ ⟨rfl, rfl⟩ (lv_entry As hA)
end GM
section GC
variable {p : Program} {l : Launch} {e : Env} {R : Room} {s : State} {m : MethodId} {args : Array Value} {below : List Frame} {meth : Method} {c : Code} {V : gV} {A : Nat → Prop} {H0 : Heap} {nL : Nat} {Q : State → Prop} {cells slots : Nat} {om : Heap → List Loc → Prop} {lv : List (Nat × Value)} {pc : Nat} {rest : List Value} {cc : ByteArray} {own : String}
/-- the answers -/
theorem g_iret {Qc : Array Value → State → Outcome → State → Prop} {free : Addr → Prop} {v : Int32} (E : gE p s m args c cc nL own V) (hr : meth.sig.returnType = some .int) (hlk : meth.locks = false) (hd : decode cc pc = .ok (.ireturn, 1)) (hq : ∀ H locs, om H locs → (∀ t : State, t.heap = H → s.WarmedH t.vm → Qc args s (.returned (some (.int v))) t) ∧ ∀ q ∈ locs, free q.base) : gg p l e R s m args below meth c nL (MQ below Qc args s cells slots free) cells slots om lv pc [.int v] := fun H locs _ ho _ => W.iret E.1 E.2.1 hr (hq H locs ho).1 (hq H locs ho).2 hd hlk
theorem g_zret {Qc : Array Value → State → Outcome → State → Prop} {free : Addr → Prop} {v : Int32} (E : gE p s m args c cc nL own V) (hr : meth.sig.returnType = some .boolean) (hlk : meth.locks = false) (hd : decode cc pc = .ok (.ireturn, 1)) (hv : v = 0 ∨ v = 1) (hq : ∀ H locs, om H locs → (∀ t : State, t.heap = H → s.WarmedH t.vm → Qc args s (.returned (some (.int v))) t) ∧ ∀ q ∈ locs, free q.base) : gg p l e R s m args below meth c nL (MQ below Qc args s cells slots free) cells slots om lv pc [.int v] := fun H locs _ ho _ => W.zret E.1 E.2.1 hr (by rcases hv with rfl | rfl <;> rfl) (hq H locs ho).1 (hq H locs ho).2 hd hlk
theorem g_lret {Qc : Array Value → State → Outcome → State → Prop} {free : Addr → Prop} {v : Int64} (E : gE p s m args c cc nL own V) (hr : meth.sig.returnType = some .long) (hlk : meth.locks = false) (hd : decode cc pc = .ok (.lreturn, 1)) (hq : ∀ H locs, om H locs → (∀ t : State, t.heap = H → s.WarmedH t.vm → Qc args s (.returned (some (.long v))) t) ∧ ∀ q ∈ locs, free q.base) : gg p l e R s m args below meth c nL (MQ below Qc args s cells slots free) cells slots om lv pc [.long v] := fun H locs _ ho _ => W.lret E.1 E.2.1 hr (hq H locs ho).1 (hq H locs ho).2 hd hlk
theorem g_vret {Qc : Array Value → State → Outcome → State → Prop} {free : Addr → Prop} (E : gE p s m args c cc nL own V) (hr : meth.sig.returnType = none) (hlk : meth.locks = false) (hd : decode cc pc = .ok (.return_, 1)) (hq : ∀ H locs, om H locs → (∀ t : State, t.heap = H → s.WarmedH t.vm → Qc args s (.returned none) t) ∧ ∀ q ∈ locs, free q.base) : gg p l e R s m args below meth c nL (MQ below Qc args s cells slots free) cells slots om lv pc [] := fun H locs _ ho _ => W.vret E.1 E.2.1 hr (hq H locs ho).1 (hq H locs ho).2 hd hlk
/-- what a reading method's end asks -/
theorem gq_i {post : Int32 → Prop} {v : Int32} (h : post v) : ∀ H locs, gR s.heap [] H locs → (∀ t : State, t.heap = H → s.WarmedH t.vm → vp_Si post args s (.returned (some (.int v))) t) ∧ ∀ q ∈ locs, (fun _ : Addr => False) q.base := fun _ _ ho => ⟨fun _ ht _ => ⟨v, rfl, h, ht.trans ho.1⟩, fun q hq => by rw [ho.2] at hq; cases hq⟩
theorem gq_l {post : Int64 → Prop} {v : Int64} (h : post v) : ∀ H locs, gR s.heap [] H locs → (∀ t : State, t.heap = H → s.WarmedH t.vm → vp_Sl post args s (.returned (some (.long v))) t) ∧ ∀ q ∈ locs, (fun _ : Addr => False) q.base := fun _ _ ho => ⟨fun _ ht _ => ⟨v, rfl, h, ht.trans ho.1⟩, fun q hq => by rw [ho.2] at hq; cases hq⟩
theorem gq_v {post : Unit → Prop} (h : post ()) : ∀ H locs, gR s.heap [] H locs → (∀ t : State, t.heap = H → s.WarmedH t.vm → va_Sv post args s (.returned none) t) ∧ ∀ q ∈ locs, (fun _ : Addr => False) q.base := fun _ _ ho => ⟨fun _ ht _ => ⟨rfl, h, ht.trans ho.1⟩, fun q hq => by rw [ho.2] at hq; cases hq⟩
/-- what a writing method's end asks -/
theorem gq_wi {S : Type} {post : Int32 → S → Prop} {w : va_W} {sz : Nat} {w1 : S → va_W} {v : Int32} (u : S) (h : post v u) : ∀ H locs, gW V (va_A w sz) s.heap (w1 u) H locs → (∀ t : State, t.heap = H → s.WarmedH t.vm → va_Qi post (cB V w sz w1) (va_A w sz) args s (.returned (some (.int v))) t) ∧ ∀ q ∈ locs, va_A w sz q.base := fun _ _ ho => ⟨fun _ ht _ => ⟨⟨v, u, rfl, h, ht ▸ ho.1, ho.2.1⟩, ho.2.2.F ht⟩, ho.2.2.2.2⟩
theorem gq_wl {S : Type} {post : Int64 → S → Prop} {w : va_W} {sz : Nat} {w1 : S → va_W} {v : Int64} (u : S) (h : post v u) : ∀ H locs, gW V (va_A w sz) s.heap (w1 u) H locs → (∀ t : State, t.heap = H → s.WarmedH t.vm → va_Ql post (cB V w sz w1) (va_A w sz) args s (.returned (some (.long v))) t) ∧ ∀ q ∈ locs, va_A w sz q.base := fun _ _ ho => ⟨fun _ ht _ => ⟨⟨v, u, rfl, h, ht ▸ ho.1, ho.2.1⟩, ho.2.2.F ht⟩, ho.2.2.2.2⟩
theorem gq_wv {S : Type} {post : S → Prop} {w : va_W} {sz : Nat} {w1 : S → va_W} (u : S) (h : post u) : ∀ H locs, gW V (va_A w sz) s.heap (w1 u) H locs → (∀ t : State, t.heap = H → s.WarmedH t.vm → va_Qv post (cB V w sz w1) (va_A w sz) args s (.returned none) t) ∧ ∀ q ∈ locs, va_A w sz q.base := fun _ _ ho => ⟨fun _ ht _ => ⟨⟨u, rfl, h, ht ▸ ho.1, ho.2.1⟩, ho.2.2.F ht⟩, ho.2.2.2.2⟩
/-- a reading walk becomes a writing one -/
theorem g_toW {w : va_W} {sz : Nat} (hP : va_P V.1 clz w s.heap) (hD : va_D (fun _ => True) w) (k : gg p l e R s m args below meth c nL Q cells slots (gW V (va_A w sz) s.heap w) lv pc rest) : gg p l e R s m args below meth c nL Q cells slots (gR s.heap []) lv pc rest := fun H locs ls ho hl => k H locs ls ⟨ho.1 ▸ hP, hD.self, by rw [ho.1, ho.2]; exact va_S.rf⟩ hl
/-- a call that only reads: the heap stays -/
theorem gr_i {post : Int32 → Prop} {a : Array Value} {st0 : List Value} (hr : ∀ (H : Heap) (locs : List Loc) (ls : Array Slot), om H locs → lv_has ls nL lv → va_Run p l e R s m args below meth c H locs cells slots 0 0 (F0 m pc ls st0) rest (vp_Si post a) (fun _ => False)) (k : ∀ r : Int32, post r → gg p l e R s m args below meth c nL Q cells slots om lv (pc + 3) (.int r :: rest)) : gg p l e R s m args below meth c nL Q cells slots om lv pc st0 := by
  intro H locs ls ho hl T hT X
  obtain ⟨v, st₀, t, T', L, h0, X', hL, e1, e2, ⟨r, hv, hp, hh⟩, st⟩ := hr H locs ls ho hl T hT X
  cases hv
  have hL0 : L = [] := by
    cases L with
    | nil => rfl
    | cons q L => exact absurd (hL q List.mem_cons_self) (fun h => h)
  subst hL0
  rw [List.append_nil] at X'
  obtain ⟨t2, a1, b1⟩ := k r hp H locs ls ho hl T' (by rw [e1, hh, h0]) X'
  exact ⟨t2, st t2 a1, b1⟩
theorem gr_l {post : Int64 → Prop} {a : Array Value} {st0 : List Value} (hr : ∀ (H : Heap) (locs : List Loc) (ls : Array Slot), om H locs → lv_has ls nL lv → va_Run p l e R s m args below meth c H locs cells slots 0 0 (F0 m pc ls st0) rest (vp_Sl post a) (fun _ => False)) (k : ∀ r : Int64, post r → gg p l e R s m args below meth c nL Q cells slots om lv (pc + 3) (.long r :: rest)) : gg p l e R s m args below meth c nL Q cells slots om lv pc st0 := by
  intro H locs ls ho hl T hT X
  obtain ⟨v, st₀, t, T', L, h0, X', hL, e1, e2, ⟨r, hv, hp, hh⟩, st⟩ := hr H locs ls ho hl T hT X
  cases hv
  have hL0 : L = [] := by
    cases L with
    | nil => rfl
    | cons q L => exact absurd (hL q List.mem_cons_self) (fun h => h)
  subst hL0
  rw [List.append_nil] at X'
  obtain ⟨t2, a1, b1⟩ := k r hp H locs ls ho hl T' (by rw [e1, hh, h0]) X'
  exact ⟨t2, st t2 a1, b1⟩
theorem gr_v {post : Unit → Prop} {a : Array Value} {st0 : List Value} (hr : ∀ (H : Heap) (locs : List Loc) (ls : Array Slot), om H locs → lv_has ls nL lv → va_Run p l e R s m args below meth c H locs cells slots 0 0 (F0 m pc ls st0) rest (va_Sv post a) (fun _ => False)) (k : post () → gg p l e R s m args below meth c nL Q cells slots om lv (pc + 3) rest) : gg p l e R s m args below meth c nL Q cells slots om lv pc st0 := by
  intro H locs ls ho hl T hT X
  obtain ⟨v, st₀, t, T', L, h0, X', hL, e1, e2, ⟨hv, hp, hh⟩, st⟩ := hr H locs ls ho hl T hT X
  cases hv
  have hL0 : L = [] := by
    cases L with
    | nil => rfl
    | cons q L => exact absurd (hL q List.mem_cons_self) (fun h => h)
  subst hL0
  rw [List.append_nil] at X'
  obtain ⟨t2, a1, b1⟩ := k hp H locs ls ho hl T' (by rw [e1, hh, h0]) X'
  exact ⟨t2, st t2 a1, b1⟩
/-- what is free for a callee that has the whole world is free for the caller -/
theorem gfree {w : va_W} {H : Heap} {locs : List Loc} (hA0 : ∀ q : Nat, H0.size ≤ q → A q) (ho : gW V A H0 w H locs) : ∀ q, va_A w H.size q → A q := by
  intro q h
  rcases h with ⟨k, e0, hk⟩ | h
  · exact ho.2.1.2 k _ hk
  · exact hA0 q (Nat.le_trans ho.2.2.1 h)
/-- a call that has the whole world and writes it -/
theorem gw_i {S : Type} {post : Int32 → S → Prop} {w : va_W} {w1 : S → va_W} {mc ms : Nat} {a : Array Value} {st0 : List Value} (hA0 : ∀ q : Nat, H0.size ≤ q → A q) (hr : ∀ (H : Heap) (locs : List Loc) (ls : Array Slot), gW V A H0 w H locs → lv_has ls nL lv → va_Run p l e R s m args below meth c H locs cells slots mc ms (F0 m pc ls st0) rest (va_Qi post (cB V w H.size w1) (va_A w H.size) a) (va_A w H.size)) (k : ∀ (r : Int32) (u : S), post r u → gg p l e R s m args below meth c nL Q (cells + mc) (slots + ms) (gW V A H0 (w1 u)) lv (pc + 3) (.int r :: rest)) : gg p l e R s m args below meth c nL Q cells slots (gW V A H0 w) lv pc st0 := by
  intro H locs ls ho hl
  have hF := gfree hA0 ho
  exact va_calli (hr H locs ls ho hl) ho.2.2 (fun q _ h => hF q h) hF (fun r u t H1 locs1 ht hvm hp hB hz hk hS => k r u hp H1 locs1 ls ⟨ht ▸ hB.1, hB.2.weaken (fun _ q _ h => hF q.1 h), hS⟩ hl)
theorem gw_l {S : Type} {post : Int64 → S → Prop} {w : va_W} {w1 : S → va_W} {mc ms : Nat} {a : Array Value} {st0 : List Value} (hA0 : ∀ q : Nat, H0.size ≤ q → A q) (hr : ∀ (H : Heap) (locs : List Loc) (ls : Array Slot), gW V A H0 w H locs → lv_has ls nL lv → va_Run p l e R s m args below meth c H locs cells slots mc ms (F0 m pc ls st0) rest (va_Ql post (cB V w H.size w1) (va_A w H.size) a) (va_A w H.size)) (k : ∀ (r : Int64) (u : S), post r u → gg p l e R s m args below meth c nL Q (cells + mc) (slots + ms) (gW V A H0 (w1 u)) lv (pc + 3) (.long r :: rest)) : gg p l e R s m args below meth c nL Q cells slots (gW V A H0 w) lv pc st0 := by
  intro H locs ls ho hl
  have hF := gfree hA0 ho
  exact va_calll (hr H locs ls ho hl) ho.2.2 (fun q _ h => hF q h) hF (fun r u t H1 locs1 ht hvm hp hB hz hk hS => k r u hp H1 locs1 ls ⟨ht ▸ hB.1, hB.2.weaken (fun _ q _ h => hF q.1 h), hS⟩ hl)
theorem gw_v {S : Type} {post : S → Prop} {w : va_W} {w1 : S → va_W} {mc ms : Nat} {a : Array Value} {st0 : List Value} (hA0 : ∀ q : Nat, H0.size ≤ q → A q) (hr : ∀ (H : Heap) (locs : List Loc) (ls : Array Slot), gW V A H0 w H locs → lv_has ls nL lv → va_Run p l e R s m args below meth c H locs cells slots mc ms (F0 m pc ls st0) rest (va_Qv post (cB V w H.size w1) (va_A w H.size) a) (va_A w H.size)) (k : ∀ (u : S), post u → gg p l e R s m args below meth c nL Q (cells + mc) (slots + ms) (gW V A H0 (w1 u)) lv (pc + 3) rest) : gg p l e R s m args below meth c nL Q cells slots (gW V A H0 w) lv pc st0 := by
  intro H locs ls ho hl
  have hF := gfree hA0 ho
  exact va_callv (hr H locs ls ho hl) ho.2.2 (fun q _ h => hF q h) hF (fun u t H1 locs1 ht hvm hp hB hz hk hS => k u hp H1 locs1 ls ⟨ht ▸ hB.1, hB.2.weaken (fun _ q _ h => hF q.1 h), hS⟩ hl)
end GC
end
section
/-! A method that throws: its contract (MetX), a call of one, and what the caller does with it: leave (gx_S, gx_V) or catch (in the part of the law's wrappers). -/
def XQ (cls : String) (s : State) (x : Addr) (t : State) (mc ms : Nat) : Prop := s.WarmedH t.vm ∧ s.sameButNew ({ t with vm := s.vm } : State) [] mc ms ∧ s.heap.size ≤ x ∧ ∃ ce : Cell, t.heap[x]? = some ce ∧ ce.vm = .none ∧ s.vm.findClass cls = some ce.cls
def MetX (l : Launch) (y : MethodName) (ws : List Cond) (rm : Room) (Pc : Array Value → State → Prop) (cls : String) (mc ms : Nat) : Prop :=
  MetFree l y (headSpec ws rm) Pc (fun _ _ _ _ _ => True) (fun _ st o t => ∃ x, o = .threw x ∧ XQ cls st x t mc ms)
def MQX (below : List Frame) (cls : String) (s : State) (mc ms : Nat) : State → Prop := fun t => ∃ x, t.status = .running ∧ Ended t below (.threw x) ∧ XQ cls s x t mc ms
theorem gMetX {l : Launch} {y : MethodName} {ws : List Cond} {rm : Room} {V : gV} {As : List Value} {cls : String} {mc ms : Nat} {cc : ByteArray} {maxL : Nat} {ret : Option FieldType}
    (hy : plainName y.cls = true) (hw : ws = Cond.code y cc maxL ret :: gt) (hA : (lg_sl As).length ≤ maxL) {Pc : Array Value → State → Prop} (hPc : ∀ a U, Pc a U → a = As.toArray ∧ gK V U)
    (body : ∀ (p : Program) (e : Env) (s : State) (m : MethodId) (below : List Frame) (meth : Method) (c : Code), gE p s m As.toArray c cc maxL y.cls V → l.admits e → c.exceptionTable.isEmpty = true → meth.locks = false → Pc As.toArray s →
      gg p l e rm s m As.toArray below meth c maxL (MQX below cls s mc ms) 0 0 (gR s.heap []) (lv_args 0 As) 0 []) : MetX l y ws rm Pc cls mc ms := by
  refine MetFree.of_bodyS (code := cc) (maxLocals := maxL) (ret := ret) hy ?_ ?_
  · intro args s m h hn
    obtain ⟨meth, c, h1, h2, h3, h4, h5, h6, -, -⟩ := Cond.code_spec hn (atoms_spec (ws := ws) h _ (by rw [hw]; exact List.mem_cons_self))
    exact ⟨meth, c, h1, h2, h3, h4, h5, h6⟩
  · intro p e s m args below meth c s₁ B hml hP _
    obtain ⟨rfl, hK⟩ := hPc _ _ hP
    have hts := atoms_spec (ws := ws) B.pre
    have E : gE p s m As.toArray c cc maxL y.cls V := ⟨B.exec, B.bytes, hml, findClass_of_methodNamed B.named, fun w h => hts w (by rw [hw]; exact List.mem_cons_of_mem _ h), hK⟩
    have hh0 : s₁.heap = s.heap := by rw [B.state]; rfl
    have hne : c.exceptionTable.isEmpty = true := B.noHandlers (hts _ (by rw [hw]; exact List.mem_cons_self))
    have K := body p e s m below meth c E B.admits hne B.notSynchronized hP s.heap [] _ ⟨rfl, rfl⟩ (lv_entry As hA)
    rw [← lg_entry_eq] at K
    obtain ⟨t, a1, x, b1, b2, b3⟩ := K s₁ hh0 (Stand.of_body B)
    exact ⟨t, .threw x, a1, b1, b2, x, rfl, b3⟩
section GX
variable {p : Program} {l : Launch} {e : Env} {R : Room} {s : State} {m : MethodId} {args : Array Value} {below : List Frame} {meth : Method} {c : Code} {locs : List Loc} {cells slots : Nat}
theorem gxBack {U : State} (X : Stand p l e R s m args below meth c U locs cells slots) {y : MethodName} {wy : List Cond} {rm : Room} {Pc : Array Value → State → Prop} {cls : String} {mc ms : Nat} (hM : MetX l y wy rm Pc cls mc ms)
    {g : JFrame} (hg : g.method = m) (hsize : g.locals.size = c.maxLocals) {ig : Instr} {len : Nat} (hdg : decode c.code g.pc = .ok (ig, len)) (hW : 2 * g.monitorRoom + (g.stack.map fun v => v.category).sum ≤ 8) {mk : MethodId} (hn : U.methodNamed? y = some mk)
    {maxL : Nat} {bytes : ByteArray} {ret : Option FieldType} (hfr : rm.frames + 1 ≤ R.frames) (hlo : 8 + (maxL + 11) + rm.locals ≤ R.locals) (hrc : rm.cells = mc) (hrs : rm.slots = ms) (hcells : cells + mc ≤ R.cells) (hslots : slots + ms ≤ R.slots)
    (hws : ∀ w ∈ wy, ∀ (a' : Array Value) (V : State), s.WarmedH V.vm → w.before a' V = true) (hcw : Cond.code y bytes maxL ret ∈ wy) (hini : ∀ (a' : Array Value) (V : State), s.WarmedH V.vm → (Cond.initialized y.cls).before a' V = true)
    {a : Array Value} (hPc : Pc a (U.calling g mk a)) :
    ∃ (x : Addr) (T' : State), Stand p l e R s m args below meth c T' locs (cells + mc) (slots + ms) ∧ (∀ q : Nat, q < U.heap.size → T'.heap[q]? = U.heap[q]?) ∧ U.heap.size ≤ T'.heap.size ∧ U.heap.size ≤ x ∧ (∃ ce : Cell, T'.heap[x]? = some ce ∧ ce.vm = .none ∧ s.vm.findClass cls = some ce.cls) ∧
      Steps p.tables e below (doInvoke e (U.setTop g) [] mk a).1 ((T'.setTop g).pushFrame (.throwing x)) := by
  obtain ⟨methY, cY, hmY, hcY, -, hlY, -, -, -, -⟩ := Cond.code_spec hn (hws _ hcw a U X.warmed)
  obtain ⟨kY, hkY, -⟩ := className_of_methodNamed hn
  have hinitY : kY.init = .initialized := Cond.initialized_spec (findClass_of_methodNamed hn) hkY (hini a U X.warmed)
  have h : At U g.method c below := by rw [hg]; exact X.here
  have happ : (headSpec wy rm).appliesLoose y e.platform (U.calling g mk a) = true :=
    Spec.appliesLoose_calling (g := g) h hdg hn hkY hinitY (X.room_calling (g := g) (R' := rm) hsize hmY hcY hfr (by rw [hlY]; omega) (by rw [hrc]; exact hcells) (by rw [hrs]; exact hslots)) (atoms_intro fun w hw => hws w hw _ _ X.warmed)
  obtain ⟨mid, hmid⟩ := h.above
  have hfrm : (U.setTop g).frames = (.java g :: mid) ++ below := by rw [State.frames_setTop' g h.top, hmid]; rfl
  obtain ⟨o, s₂, hsteps, -, hend, x, rfl, hWx, hsame, hxn, ce, hce, hcv, hcf⟩ := Steps.callFree hM p X.admits X.cas X.clock (acts := []) hfrm happ hPc trivial
  rw [State.frames_setTop' g h.top, X.tail] at hend
  obtain ⟨T', X', -, -, e2⟩ := X.outOfThrown hg hend hWx hsame
  rw [List.append_nil] at X'
  have hh : s₂.heap = T'.heap := by rw [e2]; exact Stand.throwing_heap T' g x
  refine ⟨x, T', X', fun q hq => ?_, by rw [← hh]; exact hsame.2.1, hxn, ⟨ce, by rw [← hh]; exact hce, hcv, ?_⟩, by rw [← e2]; exact hsteps⟩
  · have h1 : U.heap[q]? = some U.heap[q] := Array.getElem?_eq_getElem hq
    rw [h1, ← hh]
    exact hsame.old_cell (a := q) h1
  · have h1 : U.vm.findClass cls = some ce.cls := hcf
    rw [X.warmed.alike.findClass] at h1
    exact h1
theorem gxS {T : State} (X : Stand p l e R s m args below meth c T locs cells slots) (hexec : p.tables.exec = Jvm.exec) {own : String} {index : Nat} {y : MethodName} {bytes : ByteArray} {maxL n : Nat} {ret : Option FieldType} {wy : List Cond} {rm : Room} {Pc : Array Value → State → Prop} {cls : String} {mc ms : Nat}
    (hM : MetX l y wy rm Pc cls mc ms) (hbl : FrameBlind Pc) (hown : s.vm.findClass own = some m.cls) (cw : CallB R s args own index y bytes maxL ret wy rm mc ms n ∧ (Cond.static y).before args s = true)
    {g : JFrame} (hg : g.method = m) (hsize : g.locals.size = c.maxLocals) {As rest : List Value} (hn : As.length = n) (hstack : g.stack = As.reverse ++ rest) (hW : 2 * g.monitorRoom + (rest.map fun v => v.category).sum ≤ 8) (hdg : decode c.code g.pc = .ok (.invokestatic index, 3))
    (hf : cells + mc ≤ R.cells ∧ slots + ms ≤ R.slots) (hPc : ∀ V : State, V.heap = T.heap → s.WarmedH V.vm → Pc As.toArray V) :
    ∃ (x : Addr) (T' : State), Stand p l e R s m args below meth c T' locs (cells + mc) (slots + ms) ∧ (∀ q : Nat, q < T.heap.size → T'.heap[q]? = T.heap[q]?) ∧ T.heap.size ≤ T'.heap.size ∧ T.heap.size ≤ x ∧ (∃ ce : Cell, T'.heap[x]? = some ce ∧ ce.vm = .none ∧ s.vm.findClass cls = some ce.cls) ∧
      ∀ target, Steps p.tables e below ((T'.setTop { g with stack := rest }).pushFrame (.throwing x)) target → Steps p.tables e below (T.setTop g) target := by
  obtain ⟨⟨hrc, hrs, hfr, hlo, hws, hcw, hcode, hini, hy, hlen, hl⟩, hstt⟩ := cw
  obtain ⟨mk, hnamed⟩ := Cond.code_named hcode
  obtain ⟨methM, cM, hmethM, -, -, -, -, -, -, hsigM⟩ := Cond.code_spec hnamed hcode
  have hstatic : methM.isStatic = true := Cond.static_spec hnamed hmethM hstt
  obtain ⟨kP, hkP, -⟩ := className_of_methodNamed hnamed
  have hinitP : kP.init = .initialized := Cond.initialized_spec (findClass_of_methodNamed hnamed) hkP hini
  obtain ⟨vm₁, X₁, hstep₁⟩ := X.invokestatic hexec hown hl hnamed hmethM hstatic hkP hinitP hy (g := g) hg (argsL := As) (rest := rest) (hn.trans (hlen _ hsigM)) hstack hdg
  obtain ⟨x, T', X', h1, h2, h3, h4, hsteps⟩ := gxBack X₁ hM (g := { g with stack := rest }) hg hsize hdg hW (X₁.named hnamed) (bytes := bytes) (maxL := maxL) (ret := ret) hfr hlo hrc hrs hf.1 hf.2 hws hcw (fun a' V hWV => word_at hWV (Or.inl (by first | rfl | simp [Cond.onTables, Cond.keeps, Cond.steady])) hini) (a := As.toArray) (hbl _ _ _ _ (hPc _ rfl X₁.warmed))
  exact ⟨x, T', X', h1, h2, h3, h4, fun target h => hstep₁ _ fun acts => by rw [doInvoke_state]; exact hsteps.trans h⟩
theorem gxV {T : State} (X : Stand p l e R s m args below meth c T locs cells slots) (hexec : p.tables.exec = Jvm.exec) {own C : String} {index : Nat} {y : MethodName} {bytes : ByteArray} {maxL n : Nat} {ret : Option FieldType} {wy : List Cond} {rm : Room} {Pc : Array Value → State → Prop} {cls : String} {mc ms : Nat}
    (hM : MetX l y wy rm Pc cls mc ms) (hown : s.vm.findClass own = some m.cls) (cw : CallW R s args own C index y bytes maxL ret wy rm mc ms n)
    {b : Addr} {g : JFrame} (hg : g.method = m) (hsize : g.locals.size = c.maxLocals) {As rest : List Value} (hn : As.length = n) (hstack : g.stack = As.reverse ++ .ref b :: rest) (hW : 2 * g.monitorRoom + (rest.map fun v => v.category).sum ≤ 8) (hdg : decode c.code g.pc = .ok (.invokevirtual index, 3))
    (hf : cells + mc ≤ R.cells ∧ slots + ms ≤ R.slots) (hp : PreV s T.heap C b Pc As) :
    ∃ (x : Addr) (T' : State), Stand p l e R s m args below meth c T' locs (cells + mc) (slots + ms) ∧ (∀ q : Nat, q < T.heap.size → T'.heap[q]? = T.heap[q]?) ∧ T.heap.size ≤ T'.heap.size ∧ T.heap.size ≤ x ∧ (∃ ce : Cell, T'.heap[x]? = some ce ∧ ce.vm = .none ∧ s.vm.findClass cls = some ce.cls) ∧
      ∀ target, Steps p.tables e below ((T'.setTop { g with stack := rest }).pushFrame (.throwing x)) target → Steps p.tables e below (T.setTop g) target := by
  obtain ⟨⟨hrc, hrs, hfr, hlo, hws, hcw, hcode, hini, hy, hlen, hl⟩, hin, hsel⟩ := cw
  obtain ⟨hbl, ⟨cellB, hcell, hobj, hcls⟩, hPc⟩ := hp
  obtain ⟨mk, methM, hnamed, hmethM, hstM, habM⟩ := Cond.instanceMethod_spec hin
  obtain ⟨methM', cM, hmethM', -, -, -, -, -, -, hsigM⟩ := Cond.code_spec hnamed hcode
  cases hmethM.symm.trans hmethM'
  obtain ⟨c2, r2, m2, q1, q2, q3, q4, kP, hkP, hkPi⟩ := Cond.selects_spec hsel
  cases hcls.symm.trans q1
  cases (State.methodFound?_of_named hnamed hy).symm.trans q2
  cases hnamed.symm.trans q3
  have hselP : selectMethod e.platform s.vm cellB.cls mk = .method mk := by rw [Launch.admits_selectMethod X.admits]; exact q4
  obtain ⟨vm₁, X₁, hstep₁⟩ := X.invokevirtual hexec hown hl hnamed hmethM hstM hkP hkPi hy (a := b) (cell := cellB) hcell
    (fun z h => by rw [h] at hobj; cases hobj) hselP hmethM habM hkP hkPi (g := g) hg (argsL := As) (rest := rest) (hn.trans (hlen _ hsigM)) hstack hdg
  obtain ⟨x, T', X', h1, h2, h3, h4, hsteps⟩ := gxBack X₁ hM (g := { g with stack := rest }) hg hsize hdg hW (X₁.named hnamed) (bytes := bytes) (maxL := maxL) (ret := ret) hfr hlo hrc hrs hf.1 hf.2 hws hcw (fun a' V hWV => word_at hWV (Or.inl (by first | rfl | simp [Cond.onTables, Cond.keeps, Cond.steady])) hini) (a := (Value.ref b :: As).toArray) (hbl _ _ _ _ (hPc _ rfl X₁.warmed))
  exact ⟨x, T', X', h1, h2, h3, h4, fun target h => hstep₁ _ fun acts => by rw [doInvoke_state]; exact hsteps.trans h⟩
variable {V : gV} {nL : Nat} {lv : List (Nat × Value)} {pc : Nat} {rest : List Value} {cc : ByteArray} {own : String}
/-- a static callee throws, and this method, which has no handlers, throws on -/
theorem gx_S (E : gE p s m args c cc nL own V) (hne : c.exceptionTable.isEmpty = true) (hlk : meth.locks = false) {index : Nat} {y : MethodName} {bytes : ByteArray} {maxL n : Nat} {ret : Option FieldType} {wy : List Cond} {rm : Room} {Pc : Array Value → State → Prop} {cls : String} {mc ms : Nat}
    (hM : MetX l y wy rm Pc cls mc ms) (hbl : FrameBlind Pc) (cw : CallB R s args own index y bytes maxL ret wy rm mc ms n ∧ (Cond.static y).before args s = true) {As st0 : List Value} (hn : As.length = n) (hst : st0 = As.reverse ++ rest) (hW : (rest.map fun v => v.category).sum ≤ 8) (hd : decode cc pc = .ok (.invokestatic index, 3)) (hf : mc ≤ R.cells ∧ ms ≤ R.slots)
    (hPc : ∀ V : State, V.heap = s.heap → s.WarmedH V.vm → Pc As.toArray V) : gg p l e R s m args below meth c nL (MQX below cls s mc ms) 0 0 (gR s.heap []) lv pc st0 := by
  intro H locs ls ho hl T hT X
  obtain ⟨h1, h2⟩ := ho
  subst h1; subst h2
  obtain ⟨x, T', X', k1, k2, k3, ⟨ce, k4, k5, k6⟩, st⟩ := gxS X E.1 hM hbl E.2.2.2.1 cw (g := F0 m pc ls st0) rfl (by rw [E.2.2.1]; exact hl.1) hn hst (lv_room hW) (by rw [E.2.1]; exact hd) (by simpa using hf) (fun V hV hWV => hPc V (hV.trans hT) hWV)
  obtain ⟨a1, a2, a3, a4, a5⟩ := X'.leaveThrown x (g := F0 m pc ls rest) rfl rfl rfl (fun z hz => by
    have : c.exceptionTable = #[] := by simpa using hne
    rw [this] at hz; cases hz) hlk
  refine ⟨_, st _ a1, x, a2, a3, a4, ?_, by rw [← hT]; exact k3, ce, k4, k5, k6⟩
  simpa using a5
end GX
end
section
/-! Rows of arrays of arrays: a pool of n cells at the addresses row 0 .. row (n - 1), with what g says of each. -/
def gpool (n : Nat) (row : Nat → Nat) (g : Nat → va_E) : va_W := (List.range n).map (fun i => (row i, g i))
theorem gpool_len (n : Nat) (row : Nat → Nat) (g : Nat → va_E) : (gpool n row g).length = n := by simp [gpool]
theorem gpool_get {n i : Nat} {row : Nat → Nat} {g : Nat → va_E} (h : i < n) : (gpool n row g)[i]? = some (row i, g i) := by simp [gpool, h]
theorem gpool_set {n i : Nat} {row : Nat → Nat} {g : Nat → va_E} {x : va_E} (h : i < n) : (gpool n row g).set i (row i, x) = gpool n row (va_up g i x) := by
  apply List.ext_getElem?
  intro j
  rw [List.getElem?_set]
  by_cases hj : j < n
  · by_cases e : i = j
    · subst e
      rw [if_pos rfl, if_pos (by rw [gpool_len]; exact hj), gpool_get hj, va_up_self]
    · rw [if_neg e, gpool_get hj, gpool_get hj, va_up_ne _ _ (Ne.symm e)]
  · have e : i ≠ j := by omega
    rw [if_neg e, List.getElem?_eq_none (by rw [gpool_len]; omega), List.getElem?_eq_none (by rw [gpool_len]; omega)]
theorem gpl_get {F Y : va_W} {n i k : Nat} {row : Nat → Nat} {g : Nat → va_E} (hF : F.length = k) (h : i < n) : (F ++ (gpool n row g ++ Y))[k + i]? = some (row i, g i) := by
  rw [List.getElem?_append_right (by omega), List.getElem?_append_left (by rw [gpool_len]; omega), show k + i - F.length = i by omega, gpool_get h]
theorem gpl_set {F Y : va_W} {n i k : Nat} {row : Nat → Nat} {g : Nat → va_E} {x : va_E} (hF : F.length = k) (h : i < n) : (F ++ (gpool n row g ++ Y)).set (k + i) (row i, x) = F ++ (gpool n row (va_up g i x) ++ Y) := by
  rw [List.set_append_right _ _ (by omega), List.set_append_left _ _ (by rw [gpool_len]; omega), show k + i - F.length = i by omega, gpool_set h]
theorem gpl2_get {F P Y : va_W} {n i k : Nat} {row : Nat → Nat} {g : Nat → va_E} (hF : F.length + P.length = k) (h : i < n) : (F ++ (P ++ (gpool n row g ++ Y)))[k + i]? = some (row i, g i) := by
  rw [← List.append_assoc]; exact gpl_get (by simpa using hF) h
theorem gpl2_set {F P Y : va_W} {n i k : Nat} {row : Nat → Nat} {g : Nat → va_E} {x : va_E} (hF : F.length + P.length = k) (h : i < n) : (F ++ (P ++ (gpool n row g ++ Y))).set (k + i) (row i, x) = F ++ (P ++ (gpool n row (va_up g i x) ++ Y)) := by
  have q := gpl_set (F := F ++ P) (Y := Y) (g := g) (row := row) (x := x) (k := k) (by simpa using hF) h
  rw [List.append_assoc, List.append_assoc] at q
  exact q
theorem gpl3_get {F P P2 Y : va_W} {n i k : Nat} {row : Nat → Nat} {g : Nat → va_E} (hF : F.length + (P.length + P2.length) = k) (h : i < n) : (F ++ (P ++ (P2 ++ (gpool n row g ++ Y))))[k + i]? = some (row i, g i) := by
  rw [← List.append_assoc]; exact gpl2_get (by simp; omega) h
theorem gpl3_set {F P P2 Y : va_W} {n i k : Nat} {row : Nat → Nat} {g : Nat → va_E} {x : va_E} (hF : F.length + (P.length + P2.length) = k) (h : i < n) : (F ++ (P ++ (P2 ++ (gpool n row g ++ Y)))).set (k + i) (row i, x) = F ++ (P ++ (P2 ++ (gpool n row (va_up g i x) ++ Y))) := by
  have q := gpl2_set (F := F ++ P) (P := P2) (Y := Y) (g := g) (row := row) (x := x) (k := k) (by simp; omega) h
  rw [List.append_assoc, List.append_assoc] at q
  exact q
end
section
/-! More rows: arrays of arrays, of booleans, lengths; calls by the uniform words; contracts as functions. -/
/-- a reading method that answers v; a writing one that answers v and leaves the world w' -/
abbrev mPi (l : Launch) (y : MethodName) (wy : List Cond) (rm : Room) (V : gV) (w : va_W) (As : List Value) (v : Int32) : Prop := Met l y wy rm (cP V w As) (vp_Si (fun r => r = v)) 0 0 (fun _ => False)
abbrev mPl (l : Launch) (y : MethodName) (wy : List Cond) (rm : Room) (V : gV) (w : va_W) (As : List Value) (v : Int64) : Prop := Met l y wy rm (cP V w As) (vp_Sl (fun r => r = v)) 0 0 (fun _ => False)
abbrev mPv (l : Launch) (y : MethodName) (wy : List Cond) (rm : Room) (V : gV) (w : va_W) (As : List Value) : Prop := Met l y wy rm (cP V w As) (va_Sv (fun _ => True)) 0 0 (fun _ => False)
abbrev mWi (l : Launch) (y : MethodName) (wy : List Cond) (rm : Room) (V : gV) (w : va_W) (As : List Value) (v : Int32) (w' : va_W) (mc ms : Nat) : Prop := ∀ sz, Met l y wy rm (cW V w sz As) (va_Qi (fun (r : Int32) (_ : Unit) => r = v) (cB V w sz (fun _ => w')) (va_A w sz)) mc ms (va_A w sz)
abbrev mWl (l : Launch) (y : MethodName) (wy : List Cond) (rm : Room) (V : gV) (w : va_W) (As : List Value) (v : Int64) (w' : va_W) (mc ms : Nat) : Prop := ∀ sz, Met l y wy rm (cW V w sz As) (va_Ql (fun (r : Int64) (_ : Unit) => r = v) (cB V w sz (fun _ => w')) (va_A w sz)) mc ms (va_A w sz)
abbrev mWv (l : Launch) (y : MethodName) (wy : List Cond) (rm : Room) (V : gV) (w : va_W) (As : List Value) (w' : va_W) (mc ms : Nat) : Prop := ∀ sz, Met l y wy rm (cW V w sz As) (va_Qv (fun (_ : Unit) => True) (cB V w sz (fun _ => w')) (va_A w sz)) mc ms (va_A w sz)
section GS
variable {p : Program} {l : Launch} {e : Env} {R : Room} {s : State} {m : MethodId} {args : Array Value} {below : List Frame} {meth : Method} {c : Code} {V : gV} {A : Nat → Prop} {H0 : Heap} {nL : Nat} {Q : State → Prop} {cells slots : Nat} {om : Heap → List Loc → Prop} {ws : va_W} {lv : List (Nat × Value)} {pc : Nat} {rest : List Value} {cc : ByteArray} {own : String}
theorem g_aaload (E : gE p s m args c cc nL own V) (hO : gO om V ws) (q0 : Nat) {a n : Nat} {f : Nat → Nat} (ha : ws[q0]? = some (a, .inl (V.2.2.2.2, n, .inr (.inr (.inr (.inr (fun i => some (f i)))))))) {i : Nat} (hi : i < n) (hn : n < 2 ^ 31) (hd : decode cc pc = .ok (.aaload, 1)) (k : gg p l e R s m args below meth c nL Q cells slots om lv (pc + 1) (.ref (f i) :: rest)) : gg p l e R s m args below meth c nL Q cells slots om lv pc (.int (nI i) :: .ref a :: rest) := by
  intro H locs ls ho hl
  have hin : vp_in (nI i) n := vp_in_nI hi hn
  have hc : (nI i).toNatClampNeg = i := nI_clamp (by omega)
  have hlt : (nI i).toNatClampNeg < n := by rw [hc]; exact hi
  exact W.aald (v := .ref (f i)) (ty := .array .int) E.1 E.2.1 (hO H locs ho q0 _ ha) ((E.2.2.2.2.2.1.2 3 _ rfl).1 n (fun j => va_rf (some (f j)))) rfl (fun q => by cases q) (by show ¬ (nI i < 0 ∨ (arrV _ _ _).slots.size ≤ _); rw [arrV_size]; exact hin) (by show (arrV _ _ _).slots[_]? = _; rw [arrV_read _ _ hlt, hc]; rfl) rfl rfl hd (k H locs ls ho hl)
theorem g_baload (E : gE p s m args c cc nL own V) (hO : gO om V ws) (q0 : Nat) {a n : Nat} {f : Nat → Int32} (ha : ws[q0]? = some (a, .inl (V.2.2.2.1, n, .inl f))) {i : Nat} (hi : i < n) (hn : n < 2 ^ 31) (hd : decode cc pc = .ok (.baload, 1)) (k : gg p l e R s m args below meth c nL Q cells slots om lv (pc + 1) (.int (f i) :: rest)) : gg p l e R s m args below meth c nL Q cells slots om lv pc (.int (nI i) :: .ref a :: rest) := fun H locs ls ho hl => va_zald E.1 E.2.1 E.2.2.2.2.2.1 (hO H locs ho) q0 2 ha rfl (vp_in_nI hi hn) hd (by rw [nI_clamp (by omega)]; exact k H locs ls ho hl)
theorem g_bastore (E : gE p s m args c cc nL own V) (q0 : Nat) {a n : Nat} {f : Nat → Int32} (ha : ws[q0]? = some (a, .inl (V.2.2.2.1, n, .inl f))) {i : Nat} {x : Int32} (hx : x = 0 ∨ x = 1) (hi : i < n) (hn : n < 2 ^ 31) {ws' : va_W} (hw : ws.set q0 (a, .inl (V.2.2.2.1, n, .inl (upd f i x))) = ws') (hd : decode cc pc = .ok (.bastore, 1)) (k : gg p l e R s m args below meth c nL Q cells slots (gW V A H0 ws') lv (pc + 1) rest) : gg p l e R s m args below meth c nL Q cells slots (gW V A H0 ws) lv pc (.int x :: .int (nI i) :: .ref a :: rest) := fun H locs ls ho hl => va_zast E.1 E.2.1 E.2.2.2.2.2.1 ho.1 ho.2.1 ho.2.2 q0 2 ha rfl (vp_in_nI hi hn) hd (fun H1 locs1 hP1 hD1 hS1 => by rw [nI_clamp (by omega), show vp_nar .boolean x = x from by rcases hx with rfl | rfl <;> rfl, hw] at hP1 hD1; exact k H1 locs1 ls ⟨hP1, hD1, hS1⟩ hl)
theorem g_alen (E : gE p s m args c cc nL own V) (hO : gO om V ws) (q0 t0 : Nat) {a : Nat} {cA : ClassId} {x : vp_A} (ha : ws[q0]? = some (a, .inl (cA, x))) {ty : FieldType} (ht : (tz V)[t0]? = some (cA, ty)) (hd : decode cc pc = .ok (.arraylength, 1)) (k : gg p l e R s m args below meth c nL Q cells slots om lv (pc + 1) (.int (nI x.1) :: rest)) : gg p l e R s m args below meth c nL Q cells slots om lv pc (.ref a :: rest) := fun H locs ls ho hl => va_alen E.1 E.2.1 E.2.2.2.2.2.1 (hO H locs ho) q0 t0 ha ht rfl hd (k H locs ls ho hl)
/-- the words of a call -/
theorem cwuS (E : gE p s m args c cc nL own V) {index maxL mc ms n : Nat} {y : MethodName} {bytes : ByteArray} {ret : Option FieldType} {rm : Room} (hcode : Cond.code y bytes maxL ret ∈ gt) (hlink : Cond.methodLink own index y ∈ gt) (hst : Cond.static y ∈ gt) (hini : Cond.initialized y.cls ∈ gt) (hd : y.cls ≠ "java/lang/invoke/MethodHandle" ∧ y.cls ≠ "java/lang/invoke/VarHandle" ∧ (parseMethodDescriptor y.desc).map (fun d => d.parameters.length) = some n) (hrc : rm.cells = mc) (hrs : rm.slots = ms) (hR : rm.frames + 1 ≤ R.frames ∧ 8 + (maxL + 11) + rm.locals ≤ R.locals) : CallB R s args own index y bytes maxL ret (Cond.code y bytes maxL ret :: gt) rm mc ms n ∧ (Cond.static y).before args s = true :=
  ⟨callB_of n E.2.2.2.2.1 (gt_to hcode) rfl hrc hrs (E.2.2.2.2.1 _ hini) (E.2.2.2.2.1 _ hlink) hd hR, E.2.2.2.2.1 _ hst⟩
theorem cwuV (E : gE p s m args c cc nL own V) {index maxL mc ms n : Nat} {y : MethodName} {bytes : ByteArray} {ret : Option FieldType} {rm : Room} (hcode : Cond.code y bytes maxL ret ∈ gt) (hlink : Cond.methodLink own index y ∈ gt) (hin : Cond.instanceMethod y ∈ gt) (hsel : Cond.selects y.cls y y ∈ gt) (hini : Cond.initialized y.cls ∈ gt) (hd : y.cls ≠ "java/lang/invoke/MethodHandle" ∧ y.cls ≠ "java/lang/invoke/VarHandle" ∧ (parseMethodDescriptor y.desc).map (fun d => d.parameters.length) = some n) (hrc : rm.cells = mc) (hrs : rm.slots = ms) (hR : rm.frames + 1 ≤ R.frames ∧ 8 + (maxL + 11) + rm.locals ≤ R.locals) : CallW R s args own y.cls index y bytes maxL ret (Cond.code y bytes maxL ret :: gt) rm mc ms n :=
  ⟨callB_of n E.2.2.2.2.1 (gt_to hcode) rfl hrc hrs (E.2.2.2.2.1 _ hini) (E.2.2.2.2.1 _ hlink) hd hR, E.2.2.2.2.1 _ hin, E.2.2.2.2.1 _ hsel⟩
theorem cwuN (E : gE p s m args c cc nL own V) {index maxL mc ms n : Nat} {y : MethodName} {host : String} {bytes : ByteArray} {ret : Option FieldType} {rm : Room} (hcode : Cond.code y bytes maxL ret ∈ gt) (hlink : (own, index, y, host) ∈ nlz) (hst : Cond.static y ∈ gt) (hini : Cond.initialized y.cls ∈ gt) (hd : y.cls ≠ "java/lang/invoke/MethodHandle" ∧ y.cls ≠ "java/lang/invoke/VarHandle" ∧ (parseMethodDescriptor y.desc).map (fun d => d.parameters.length) = some n) (hrc : rm.cells = mc) (hrs : rm.slots = ms) (hR : rm.frames + 1 ≤ R.frames ∧ 8 + (maxL + 11) + rm.locals ≤ R.locals) : va_CN R s args own index y host bytes maxL ret (Cond.code y bytes maxL ret :: gt) rm mc ms n ∧ (Cond.static y).before args s = true ∧ True :=
  ⟨va_cnB n E.2.2.2.2.1 (gt_to hcode) rfl hrc hrs (E.2.2.2.2.2.2 _ hlink) (E.2.2.2.2.1 _ hini) hd hR, E.2.2.2.2.1 _ hst, trivial⟩
theorem gpSi (E : gE p s m args c cc nL own V) {index maxL n : Nat} {y : MethodName} {bytes : ByteArray} {ret : Option FieldType} {wy : List Cond} {rm : Room} {w : va_W} {As st0 : List Value} {v : Int32} (hO : gO om V w) (hM : mPi l y wy rm V w As v) (cw : CallB R s args own index y bytes maxL ret wy rm 0 0 n ∧ (Cond.static y).before args s = true) (hn : As.length = n) (hst : st0 = As.reverse ++ rest) (hW : (rest.map fun v => v.category).sum ≤ 8) (hf : cells ≤ R.cells ∧ slots ≤ R.slots) (hd : decode cc pc = .ok (.invokestatic index, 3)) (k : gg p l e R s m args below meth c nL Q cells slots om lv (pc + 3) (.int v :: rest)) : gg p l e R s m args below meth c nL Q cells slots om lv pc st0 :=
  gr_i (a := As.toArray) (fun H locs ls ho hl => va_runS (As := As) ⟨E.1, E.2.1, E.2.2.1, E.2.2.2.1, E.2.2.2.2.1⟩ hM cw ⟨cP.blind, fun U hU hWU => ⟨rfl, by rw [hU]; exact hO H locs ho, E.2.2.2.2.2.warm hWU⟩⟩ rfl hn hl.1 hst (lv_room hW) hd hf) (fun r hr => hr ▸ k)
theorem gwSi (E : gE p s m args c cc nL own V) {index maxL n : Nat} {y : MethodName} {bytes : ByteArray} {ret : Option FieldType} {wy : List Cond} {rm : Room} {w : va_W} {As st0 : List Value} {v : Int32} {w' : va_W} {mc ms : Nat} (hA0 : ∀ q : Nat, H0.size ≤ q → A q) (hM : mWi l y wy rm V w As v w' mc ms) (cw : CallB R s args own index y bytes maxL ret wy rm mc ms n ∧ (Cond.static y).before args s = true) (hn : As.length = n) (hst : st0 = As.reverse ++ rest) (hW : (rest.map fun v => v.category).sum ≤ 8) (hf : cells + mc ≤ R.cells ∧ slots + ms ≤ R.slots) (hd : decode cc pc = .ok (.invokestatic index, 3)) (k : gg p l e R s m args below meth c nL Q (cells + mc) (slots + ms) (gW V A H0 w') lv (pc + 3) (.int v :: rest)) : gg p l e R s m args below meth c nL Q cells slots (gW V A H0 w) lv pc st0 :=
  gw_i (a := As.toArray) hA0 (fun H locs ls ho hl => va_runS (As := As) ⟨E.1, E.2.1, E.2.2.1, E.2.2.2.1, E.2.2.2.2.1⟩ (hM H.size) cw ⟨cW.blind, fun U hU hWU => ⟨rfl, by rw [hU], by rw [hU]; exact ho.1, E.2.2.2.2.2.warm hWU, ho.2.1.weaken (fun _ _ _ _ => trivial)⟩⟩ rfl hn hl.1 hst (lv_room hW) hd hf) (fun r _ hr => hr ▸ k)
theorem gpSl (E : gE p s m args c cc nL own V) {index maxL n : Nat} {y : MethodName} {bytes : ByteArray} {ret : Option FieldType} {wy : List Cond} {rm : Room} {w : va_W} {As st0 : List Value} {v : Int64} (hO : gO om V w) (hM : mPl l y wy rm V w As v) (cw : CallB R s args own index y bytes maxL ret wy rm 0 0 n ∧ (Cond.static y).before args s = true) (hn : As.length = n) (hst : st0 = As.reverse ++ rest) (hW : (rest.map fun v => v.category).sum ≤ 8) (hf : cells ≤ R.cells ∧ slots ≤ R.slots) (hd : decode cc pc = .ok (.invokestatic index, 3)) (k : gg p l e R s m args below meth c nL Q cells slots om lv (pc + 3) (.long v :: rest)) : gg p l e R s m args below meth c nL Q cells slots om lv pc st0 :=
  gr_l (a := As.toArray) (fun H locs ls ho hl => va_runS (As := As) ⟨E.1, E.2.1, E.2.2.1, E.2.2.2.1, E.2.2.2.2.1⟩ hM cw ⟨cP.blind, fun U hU hWU => ⟨rfl, by rw [hU]; exact hO H locs ho, E.2.2.2.2.2.warm hWU⟩⟩ rfl hn hl.1 hst (lv_room hW) hd hf) (fun r hr => hr ▸ k)
theorem gwSl (E : gE p s m args c cc nL own V) {index maxL n : Nat} {y : MethodName} {bytes : ByteArray} {ret : Option FieldType} {wy : List Cond} {rm : Room} {w : va_W} {As st0 : List Value} {v : Int64} {w' : va_W} {mc ms : Nat} (hA0 : ∀ q : Nat, H0.size ≤ q → A q) (hM : mWl l y wy rm V w As v w' mc ms) (cw : CallB R s args own index y bytes maxL ret wy rm mc ms n ∧ (Cond.static y).before args s = true) (hn : As.length = n) (hst : st0 = As.reverse ++ rest) (hW : (rest.map fun v => v.category).sum ≤ 8) (hf : cells + mc ≤ R.cells ∧ slots + ms ≤ R.slots) (hd : decode cc pc = .ok (.invokestatic index, 3)) (k : gg p l e R s m args below meth c nL Q (cells + mc) (slots + ms) (gW V A H0 w') lv (pc + 3) (.long v :: rest)) : gg p l e R s m args below meth c nL Q cells slots (gW V A H0 w) lv pc st0 :=
  gw_l (a := As.toArray) hA0 (fun H locs ls ho hl => va_runS (As := As) ⟨E.1, E.2.1, E.2.2.1, E.2.2.2.1, E.2.2.2.2.1⟩ (hM H.size) cw ⟨cW.blind, fun U hU hWU => ⟨rfl, by rw [hU], by rw [hU]; exact ho.1, E.2.2.2.2.2.warm hWU, ho.2.1.weaken (fun _ _ _ _ => trivial)⟩⟩ rfl hn hl.1 hst (lv_room hW) hd hf) (fun r _ hr => hr ▸ k)
theorem gpSv (E : gE p s m args c cc nL own V) {index maxL n : Nat} {y : MethodName} {bytes : ByteArray} {ret : Option FieldType} {wy : List Cond} {rm : Room} {w : va_W} {As st0 : List Value} (hO : gO om V w) (hM : mPv l y wy rm V w As) (cw : CallB R s args own index y bytes maxL ret wy rm 0 0 n ∧ (Cond.static y).before args s = true) (hn : As.length = n) (hst : st0 = As.reverse ++ rest) (hW : (rest.map fun v => v.category).sum ≤ 8) (hf : cells ≤ R.cells ∧ slots ≤ R.slots) (hd : decode cc pc = .ok (.invokestatic index, 3)) (k : gg p l e R s m args below meth c nL Q cells slots om lv (pc + 3) (rest)) : gg p l e R s m args below meth c nL Q cells slots om lv pc st0 :=
  gr_v (a := As.toArray) (fun H locs ls ho hl => va_runS (As := As) ⟨E.1, E.2.1, E.2.2.1, E.2.2.2.1, E.2.2.2.2.1⟩ hM cw ⟨cP.blind, fun U hU hWU => ⟨rfl, by rw [hU]; exact hO H locs ho, E.2.2.2.2.2.warm hWU⟩⟩ rfl hn hl.1 hst (lv_room hW) hd hf) (fun _ => k)
theorem gwSv (E : gE p s m args c cc nL own V) {index maxL n : Nat} {y : MethodName} {bytes : ByteArray} {ret : Option FieldType} {wy : List Cond} {rm : Room} {w : va_W} {As st0 : List Value} {w' : va_W} {mc ms : Nat} (hA0 : ∀ q : Nat, H0.size ≤ q → A q) (hM : mWv l y wy rm V w As w' mc ms) (cw : CallB R s args own index y bytes maxL ret wy rm mc ms n ∧ (Cond.static y).before args s = true) (hn : As.length = n) (hst : st0 = As.reverse ++ rest) (hW : (rest.map fun v => v.category).sum ≤ 8) (hf : cells + mc ≤ R.cells ∧ slots + ms ≤ R.slots) (hd : decode cc pc = .ok (.invokestatic index, 3)) (k : gg p l e R s m args below meth c nL Q (cells + mc) (slots + ms) (gW V A H0 w') lv (pc + 3) (rest)) : gg p l e R s m args below meth c nL Q cells slots (gW V A H0 w) lv pc st0 :=
  gw_v (a := As.toArray) hA0 (fun H locs ls ho hl => va_runS (As := As) ⟨E.1, E.2.1, E.2.2.1, E.2.2.2.1, E.2.2.2.2.1⟩ (hM H.size) cw ⟨cW.blind, fun U hU hWU => ⟨rfl, by rw [hU], by rw [hU]; exact ho.1, E.2.2.2.2.2.warm hWU, ho.2.1.weaken (fun _ _ _ _ => trivial)⟩⟩ rfl hn hl.1 hst (lv_room hW) hd hf) (fun _ _ => k)
theorem gpNi (E : gE p s m args c cc nL own V) {index maxL n : Nat} {y : MethodName} {bytes : ByteArray} {ret : Option FieldType} {wy : List Cond} {rm : Room} {w : va_W} {As st0 : List Value} {v : Int32} (hO : gO om V w) (hM : mPi l y wy rm V w As v) {host : String} (cw : va_CN R s args own index y host bytes maxL ret wy rm 0 0 n ∧ (Cond.static y).before args s = true ∧ True) (hn : As.length = n) (hst : st0 = As.reverse ++ rest) (hW : (rest.map fun v => v.category).sum ≤ 8) (hf : cells ≤ R.cells ∧ slots ≤ R.slots) (hd : decode cc pc = .ok (.invokestatic index, 3)) (k : gg p l e R s m args below meth c nL Q cells slots om lv (pc + 3) (.int v :: rest)) : gg p l e R s m args below meth c nL Q cells slots om lv pc st0 :=
  gr_i (a := As.toArray) (fun H locs ls ho hl => va_runSN (As := As) ⟨E.1, E.2.1, E.2.2.1, E.2.2.2.1, E.2.2.2.2.1⟩ hM cw ⟨cP.blind, fun U hU hWU => ⟨rfl, by rw [hU]; exact hO H locs ho, E.2.2.2.2.2.warm hWU⟩⟩ rfl hn hl.1 hst (lv_room hW) hd hf) (fun r hr => hr ▸ k)
theorem gwNi (E : gE p s m args c cc nL own V) {index maxL n : Nat} {y : MethodName} {bytes : ByteArray} {ret : Option FieldType} {wy : List Cond} {rm : Room} {w : va_W} {As st0 : List Value} {v : Int32} {w' : va_W} {mc ms : Nat} (hA0 : ∀ q : Nat, H0.size ≤ q → A q) (hM : mWi l y wy rm V w As v w' mc ms) {host : String} (cw : va_CN R s args own index y host bytes maxL ret wy rm mc ms n ∧ (Cond.static y).before args s = true ∧ True) (hn : As.length = n) (hst : st0 = As.reverse ++ rest) (hW : (rest.map fun v => v.category).sum ≤ 8) (hf : cells + mc ≤ R.cells ∧ slots + ms ≤ R.slots) (hd : decode cc pc = .ok (.invokestatic index, 3)) (k : gg p l e R s m args below meth c nL Q (cells + mc) (slots + ms) (gW V A H0 w') lv (pc + 3) (.int v :: rest)) : gg p l e R s m args below meth c nL Q cells slots (gW V A H0 w) lv pc st0 :=
  gw_i (a := As.toArray) hA0 (fun H locs ls ho hl => va_runSN (As := As) ⟨E.1, E.2.1, E.2.2.1, E.2.2.2.1, E.2.2.2.2.1⟩ (hM H.size) cw ⟨cW.blind, fun U hU hWU => ⟨rfl, by rw [hU], by rw [hU]; exact ho.1, E.2.2.2.2.2.warm hWU, ho.2.1.weaken (fun _ _ _ _ => trivial)⟩⟩ rfl hn hl.1 hst (lv_room hW) hd hf) (fun r _ hr => hr ▸ k)
theorem gpNl (E : gE p s m args c cc nL own V) {index maxL n : Nat} {y : MethodName} {bytes : ByteArray} {ret : Option FieldType} {wy : List Cond} {rm : Room} {w : va_W} {As st0 : List Value} {v : Int64} (hO : gO om V w) (hM : mPl l y wy rm V w As v) {host : String} (cw : va_CN R s args own index y host bytes maxL ret wy rm 0 0 n ∧ (Cond.static y).before args s = true ∧ True) (hn : As.length = n) (hst : st0 = As.reverse ++ rest) (hW : (rest.map fun v => v.category).sum ≤ 8) (hf : cells ≤ R.cells ∧ slots ≤ R.slots) (hd : decode cc pc = .ok (.invokestatic index, 3)) (k : gg p l e R s m args below meth c nL Q cells slots om lv (pc + 3) (.long v :: rest)) : gg p l e R s m args below meth c nL Q cells slots om lv pc st0 :=
  gr_l (a := As.toArray) (fun H locs ls ho hl => va_runSN (As := As) ⟨E.1, E.2.1, E.2.2.1, E.2.2.2.1, E.2.2.2.2.1⟩ hM cw ⟨cP.blind, fun U hU hWU => ⟨rfl, by rw [hU]; exact hO H locs ho, E.2.2.2.2.2.warm hWU⟩⟩ rfl hn hl.1 hst (lv_room hW) hd hf) (fun r hr => hr ▸ k)
theorem gwNl (E : gE p s m args c cc nL own V) {index maxL n : Nat} {y : MethodName} {bytes : ByteArray} {ret : Option FieldType} {wy : List Cond} {rm : Room} {w : va_W} {As st0 : List Value} {v : Int64} {w' : va_W} {mc ms : Nat} (hA0 : ∀ q : Nat, H0.size ≤ q → A q) (hM : mWl l y wy rm V w As v w' mc ms) {host : String} (cw : va_CN R s args own index y host bytes maxL ret wy rm mc ms n ∧ (Cond.static y).before args s = true ∧ True) (hn : As.length = n) (hst : st0 = As.reverse ++ rest) (hW : (rest.map fun v => v.category).sum ≤ 8) (hf : cells + mc ≤ R.cells ∧ slots + ms ≤ R.slots) (hd : decode cc pc = .ok (.invokestatic index, 3)) (k : gg p l e R s m args below meth c nL Q (cells + mc) (slots + ms) (gW V A H0 w') lv (pc + 3) (.long v :: rest)) : gg p l e R s m args below meth c nL Q cells slots (gW V A H0 w) lv pc st0 :=
  gw_l (a := As.toArray) hA0 (fun H locs ls ho hl => va_runSN (As := As) ⟨E.1, E.2.1, E.2.2.1, E.2.2.2.1, E.2.2.2.2.1⟩ (hM H.size) cw ⟨cW.blind, fun U hU hWU => ⟨rfl, by rw [hU], by rw [hU]; exact ho.1, E.2.2.2.2.2.warm hWU, ho.2.1.weaken (fun _ _ _ _ => trivial)⟩⟩ rfl hn hl.1 hst (lv_room hW) hd hf) (fun r _ hr => hr ▸ k)
theorem gpNv (E : gE p s m args c cc nL own V) {index maxL n : Nat} {y : MethodName} {bytes : ByteArray} {ret : Option FieldType} {wy : List Cond} {rm : Room} {w : va_W} {As st0 : List Value} (hO : gO om V w) (hM : mPv l y wy rm V w As) {host : String} (cw : va_CN R s args own index y host bytes maxL ret wy rm 0 0 n ∧ (Cond.static y).before args s = true ∧ True) (hn : As.length = n) (hst : st0 = As.reverse ++ rest) (hW : (rest.map fun v => v.category).sum ≤ 8) (hf : cells ≤ R.cells ∧ slots ≤ R.slots) (hd : decode cc pc = .ok (.invokestatic index, 3)) (k : gg p l e R s m args below meth c nL Q cells slots om lv (pc + 3) (rest)) : gg p l e R s m args below meth c nL Q cells slots om lv pc st0 :=
  gr_v (a := As.toArray) (fun H locs ls ho hl => va_runSN (As := As) ⟨E.1, E.2.1, E.2.2.1, E.2.2.2.1, E.2.2.2.2.1⟩ hM cw ⟨cP.blind, fun U hU hWU => ⟨rfl, by rw [hU]; exact hO H locs ho, E.2.2.2.2.2.warm hWU⟩⟩ rfl hn hl.1 hst (lv_room hW) hd hf) (fun _ => k)
theorem gwNv (E : gE p s m args c cc nL own V) {index maxL n : Nat} {y : MethodName} {bytes : ByteArray} {ret : Option FieldType} {wy : List Cond} {rm : Room} {w : va_W} {As st0 : List Value} {w' : va_W} {mc ms : Nat} (hA0 : ∀ q : Nat, H0.size ≤ q → A q) (hM : mWv l y wy rm V w As w' mc ms) {host : String} (cw : va_CN R s args own index y host bytes maxL ret wy rm mc ms n ∧ (Cond.static y).before args s = true ∧ True) (hn : As.length = n) (hst : st0 = As.reverse ++ rest) (hW : (rest.map fun v => v.category).sum ≤ 8) (hf : cells + mc ≤ R.cells ∧ slots + ms ≤ R.slots) (hd : decode cc pc = .ok (.invokestatic index, 3)) (k : gg p l e R s m args below meth c nL Q (cells + mc) (slots + ms) (gW V A H0 w') lv (pc + 3) (rest)) : gg p l e R s m args below meth c nL Q cells slots (gW V A H0 w) lv pc st0 :=
  gw_v (a := As.toArray) hA0 (fun H locs ls ho hl => va_runSN (As := As) ⟨E.1, E.2.1, E.2.2.1, E.2.2.2.1, E.2.2.2.2.1⟩ (hM H.size) cw ⟨cW.blind, fun U hU hWU => ⟨rfl, by rw [hU], by rw [hU]; exact ho.1, E.2.2.2.2.2.warm hWU, ho.2.1.weaken (fun _ _ _ _ => trivial)⟩⟩ rfl hn hl.1 hst (lv_room hW) hd hf) (fun _ _ => k)
theorem gpVi (E : gE p s m args c cc nL own V) {index maxL n : Nat} {y : MethodName} {bytes : ByteArray} {ret : Option FieldType} {wy : List Cond} {rm : Room} {w : va_W} {As st0 : List Value} {v : Int32} (hO : gO om V w) {C : String} {T : u_T} {N ci b : Nat} {fs : List Value} (q0 : Nat) (he : w[q0]? = some (b, .inr (ci, fs))) (hc : clz[ci]? = some (C, T, N)) (hM : mPi l y wy rm V w (.ref b :: As) v) (cw : CallW R s args own C index y bytes maxL ret wy rm 0 0 n) (hn : As.length = n) (hst : st0 = As.reverse ++ .ref b :: rest) (hW : (rest.map fun v => v.category).sum ≤ 8) (hf : cells ≤ R.cells ∧ slots ≤ R.slots) (hd : decode cc pc = .ok (.invokevirtual index, 3)) (k : gg p l e R s m args below meth c nL Q cells slots om lv (pc + 3) (.int v :: rest)) : gg p l e R s m args below meth c nL Q cells slots om lv pc st0 :=
  gr_i (a := (.ref b :: As).toArray) (fun H locs ls ho hl => va_runV (As := As) ⟨E.1, E.2.1, E.2.2.1, E.2.2.2.1, E.2.2.2.2.1⟩ hM cw ⟨cP.blind, va_recv E.2.2.2.2.2.1 (hO H locs ho) hc he, fun U hU hWU => ⟨rfl, by rw [hU]; exact hO H locs ho, E.2.2.2.2.2.warm hWU⟩⟩ rfl hn hl.1 hst (lv_room hW) hd hf) (fun r hr => hr ▸ k)
theorem gwVi (E : gE p s m args c cc nL own V) {index maxL n : Nat} {y : MethodName} {bytes : ByteArray} {ret : Option FieldType} {wy : List Cond} {rm : Room} {w : va_W} {As st0 : List Value} {v : Int32} {w' : va_W} {mc ms : Nat} (hA0 : ∀ q : Nat, H0.size ≤ q → A q) {C : String} {T : u_T} {N ci b : Nat} {fs : List Value} (q0 : Nat) (he : w[q0]? = some (b, .inr (ci, fs))) (hc : clz[ci]? = some (C, T, N)) (hM : mWi l y wy rm V w (.ref b :: As) v w' mc ms) (cw : CallW R s args own C index y bytes maxL ret wy rm mc ms n) (hn : As.length = n) (hst : st0 = As.reverse ++ .ref b :: rest) (hW : (rest.map fun v => v.category).sum ≤ 8) (hf : cells + mc ≤ R.cells ∧ slots + ms ≤ R.slots) (hd : decode cc pc = .ok (.invokevirtual index, 3)) (k : gg p l e R s m args below meth c nL Q (cells + mc) (slots + ms) (gW V A H0 w') lv (pc + 3) (.int v :: rest)) : gg p l e R s m args below meth c nL Q cells slots (gW V A H0 w) lv pc st0 :=
  gw_i (a := (.ref b :: As).toArray) hA0 (fun H locs ls ho hl => va_runV (As := As) ⟨E.1, E.2.1, E.2.2.1, E.2.2.2.1, E.2.2.2.2.1⟩ (hM H.size) cw ⟨cW.blind, va_recv E.2.2.2.2.2.1 ho.1 hc he, fun U hU hWU => ⟨rfl, by rw [hU], by rw [hU]; exact ho.1, E.2.2.2.2.2.warm hWU, ho.2.1.weaken (fun _ _ _ _ => trivial)⟩⟩ rfl hn hl.1 hst (lv_room hW) hd hf) (fun r _ hr => hr ▸ k)
theorem gpVl (E : gE p s m args c cc nL own V) {index maxL n : Nat} {y : MethodName} {bytes : ByteArray} {ret : Option FieldType} {wy : List Cond} {rm : Room} {w : va_W} {As st0 : List Value} {v : Int64} (hO : gO om V w) {C : String} {T : u_T} {N ci b : Nat} {fs : List Value} (q0 : Nat) (he : w[q0]? = some (b, .inr (ci, fs))) (hc : clz[ci]? = some (C, T, N)) (hM : mPl l y wy rm V w (.ref b :: As) v) (cw : CallW R s args own C index y bytes maxL ret wy rm 0 0 n) (hn : As.length = n) (hst : st0 = As.reverse ++ .ref b :: rest) (hW : (rest.map fun v => v.category).sum ≤ 8) (hf : cells ≤ R.cells ∧ slots ≤ R.slots) (hd : decode cc pc = .ok (.invokevirtual index, 3)) (k : gg p l e R s m args below meth c nL Q cells slots om lv (pc + 3) (.long v :: rest)) : gg p l e R s m args below meth c nL Q cells slots om lv pc st0 :=
  gr_l (a := (.ref b :: As).toArray) (fun H locs ls ho hl => va_runV (As := As) ⟨E.1, E.2.1, E.2.2.1, E.2.2.2.1, E.2.2.2.2.1⟩ hM cw ⟨cP.blind, va_recv E.2.2.2.2.2.1 (hO H locs ho) hc he, fun U hU hWU => ⟨rfl, by rw [hU]; exact hO H locs ho, E.2.2.2.2.2.warm hWU⟩⟩ rfl hn hl.1 hst (lv_room hW) hd hf) (fun r hr => hr ▸ k)
theorem gwVl (E : gE p s m args c cc nL own V) {index maxL n : Nat} {y : MethodName} {bytes : ByteArray} {ret : Option FieldType} {wy : List Cond} {rm : Room} {w : va_W} {As st0 : List Value} {v : Int64} {w' : va_W} {mc ms : Nat} (hA0 : ∀ q : Nat, H0.size ≤ q → A q) {C : String} {T : u_T} {N ci b : Nat} {fs : List Value} (q0 : Nat) (he : w[q0]? = some (b, .inr (ci, fs))) (hc : clz[ci]? = some (C, T, N)) (hM : mWl l y wy rm V w (.ref b :: As) v w' mc ms) (cw : CallW R s args own C index y bytes maxL ret wy rm mc ms n) (hn : As.length = n) (hst : st0 = As.reverse ++ .ref b :: rest) (hW : (rest.map fun v => v.category).sum ≤ 8) (hf : cells + mc ≤ R.cells ∧ slots + ms ≤ R.slots) (hd : decode cc pc = .ok (.invokevirtual index, 3)) (k : gg p l e R s m args below meth c nL Q (cells + mc) (slots + ms) (gW V A H0 w') lv (pc + 3) (.long v :: rest)) : gg p l e R s m args below meth c nL Q cells slots (gW V A H0 w) lv pc st0 :=
  gw_l (a := (.ref b :: As).toArray) hA0 (fun H locs ls ho hl => va_runV (As := As) ⟨E.1, E.2.1, E.2.2.1, E.2.2.2.1, E.2.2.2.2.1⟩ (hM H.size) cw ⟨cW.blind, va_recv E.2.2.2.2.2.1 ho.1 hc he, fun U hU hWU => ⟨rfl, by rw [hU], by rw [hU]; exact ho.1, E.2.2.2.2.2.warm hWU, ho.2.1.weaken (fun _ _ _ _ => trivial)⟩⟩ rfl hn hl.1 hst (lv_room hW) hd hf) (fun r _ hr => hr ▸ k)
theorem gpVv (E : gE p s m args c cc nL own V) {index maxL n : Nat} {y : MethodName} {bytes : ByteArray} {ret : Option FieldType} {wy : List Cond} {rm : Room} {w : va_W} {As st0 : List Value} (hO : gO om V w) {C : String} {T : u_T} {N ci b : Nat} {fs : List Value} (q0 : Nat) (he : w[q0]? = some (b, .inr (ci, fs))) (hc : clz[ci]? = some (C, T, N)) (hM : mPv l y wy rm V w (.ref b :: As)) (cw : CallW R s args own C index y bytes maxL ret wy rm 0 0 n) (hn : As.length = n) (hst : st0 = As.reverse ++ .ref b :: rest) (hW : (rest.map fun v => v.category).sum ≤ 8) (hf : cells ≤ R.cells ∧ slots ≤ R.slots) (hd : decode cc pc = .ok (.invokevirtual index, 3)) (k : gg p l e R s m args below meth c nL Q cells slots om lv (pc + 3) (rest)) : gg p l e R s m args below meth c nL Q cells slots om lv pc st0 :=
  gr_v (a := (.ref b :: As).toArray) (fun H locs ls ho hl => va_runV (As := As) ⟨E.1, E.2.1, E.2.2.1, E.2.2.2.1, E.2.2.2.2.1⟩ hM cw ⟨cP.blind, va_recv E.2.2.2.2.2.1 (hO H locs ho) hc he, fun U hU hWU => ⟨rfl, by rw [hU]; exact hO H locs ho, E.2.2.2.2.2.warm hWU⟩⟩ rfl hn hl.1 hst (lv_room hW) hd hf) (fun _ => k)
theorem gwVv (E : gE p s m args c cc nL own V) {index maxL n : Nat} {y : MethodName} {bytes : ByteArray} {ret : Option FieldType} {wy : List Cond} {rm : Room} {w : va_W} {As st0 : List Value} {w' : va_W} {mc ms : Nat} (hA0 : ∀ q : Nat, H0.size ≤ q → A q) {C : String} {T : u_T} {N ci b : Nat} {fs : List Value} (q0 : Nat) (he : w[q0]? = some (b, .inr (ci, fs))) (hc : clz[ci]? = some (C, T, N)) (hM : mWv l y wy rm V w (.ref b :: As) w' mc ms) (cw : CallW R s args own C index y bytes maxL ret wy rm mc ms n) (hn : As.length = n) (hst : st0 = As.reverse ++ .ref b :: rest) (hW : (rest.map fun v => v.category).sum ≤ 8) (hf : cells + mc ≤ R.cells ∧ slots + ms ≤ R.slots) (hd : decode cc pc = .ok (.invokevirtual index, 3)) (k : gg p l e R s m args below meth c nL Q (cells + mc) (slots + ms) (gW V A H0 w') lv (pc + 3) (rest)) : gg p l e R s m args below meth c nL Q cells slots (gW V A H0 w) lv pc st0 :=
  gw_v (a := (.ref b :: As).toArray) hA0 (fun H locs ls ho hl => va_runV (As := As) ⟨E.1, E.2.1, E.2.2.1, E.2.2.2.1, E.2.2.2.2.1⟩ (hM H.size) cw ⟨cW.blind, va_recv E.2.2.2.2.2.1 ho.1 hc he, fun U hU hWU => ⟨rfl, by rw [hU], by rw [hU]; exact ho.1, E.2.2.2.2.2.warm hWU, ho.2.1.weaken (fun _ _ _ _ => trivial)⟩⟩ rfl hn hl.1 hst (lv_room hW) hd hf) (fun _ _ => k)
end GS
end
section
/-! The class's cells, as functions on numbers; numbers as the machine holds them. -/
def bI (b : Bool) : Int32 := if b then 1 else 0
theorem bI_01 (b : Bool) : bI b = 0 ∨ bI b = 1 := by cases b <;> simp [bI]
theorem bI_0 {b : Bool} : bI b = 0 ↔ b = false := by cases b <;> simp [bI]
def oN : Option Nat → Int32
  | none => -1
  | some k => nI k
def iI (z : Int) : Int32 := Int32.ofInt z
def lI (z : Int) : Int64 := Int64.ofInt z
theorem nI_iI (n : Nat) : nI n = iI n := by simp [nI, iI, Int32.ofInt_eq_ofNat]
theorem lN_lI (n : Nat) : lN n = lI n := by simp [lN, lI, Int64.ofInt_eq_ofNat]
theorem iI_add (a b : Int) : iI a + iI b = iI (a + b) := by simp [iI, Int32.ofInt_add]
theorem iI_sub (a b : Int) : iI a - iI b = iI (a - b) := by simp [iI, Int32.ofInt_sub]
theorem lI_add (a b : Int) : lI a + lI b = lI (a + b) := by simp [lI, Int64.ofInt_add]
theorem lI_sub (a b : Int) : lI a - lI b = lI (a - b) := by simp [lI, Int64.ofInt_sub]
theorem nI_inc (i : Nat) : nI i + Int32.ofInt 1 = nI (i + 1) := nI_1 i
theorem upd_nI (f : Nat → Nat) (i v : Nat) : upd (fun j => nI (f j)) i (nI v) = fun j => nI (va_up f i v j) := by
  funext j; unfold upd va_up; split <;> rfl
theorem upd_oN (f : Nat → Option Nat) (i : Nat) (v : Option Nat) : upd (fun j => oN (f j)) i (oN v) = fun j => oN (va_up f i v j) := by
  funext j; unfold upd va_up; split <;> rfl
theorem upd_iI (f : Nat → Int) (i : Nat) (v : Int) : upd (fun j => iI (f j)) i (iI v) = fun j => iI (va_up f i v j) := by
  funext j; unfold upd va_up; split <;> rfl
theorem upd_lN (f : Nat → Nat) (i v : Nat) : vp_updL (fun j => lN (f j)) i (lN v) = fun j => lN (va_up f i v j) := by
  funext j; unfold vp_updL va_up; split <;> rfl
theorem upd_lI (f : Nat → Int) (i : Nat) (v : Int) : vp_updL (fun j => lI (f j)) i (lI v) = fun j => lI (va_up f i v j) := by
  funext j; unfold vp_updL va_up; split <;> rfl
abbrev aN (V : gV) (n : Nat) (f : Nat → Nat) : va_E := .inl (V.2.1, n, .inl (fun j => nI (f j)))
abbrev aO (V : gV) (n : Nat) (f : Nat → Option Nat) : va_E := .inl (V.2.1, n, .inl (fun j => oN (f j)))
abbrev aI (V : gV) (n : Nat) (f : Nat → Int) : va_E := .inl (V.2.1, n, .inl (fun j => iI (f j)))
abbrev aL (V : gV) (n : Nat) (f : Nat → Nat) : va_E := .inl (V.2.2.1, n, .inr (.inl (fun j => lN (f j))))
abbrev aJ (V : gV) (n : Nat) (f : Nat → Int) : va_E := .inl (V.2.2.1, n, .inr (.inl (fun j => lI (f j))))
abbrev aB (V : gV) (n : Nat) (f : Nat → Bool) : va_E := .inl (V.2.2.2.1, n, .inl (fun j => bI (f j)))
abbrev aR (V : gV) (n : Nat) (r : Nat → Nat) : va_E := .inl (V.2.2.2.2, n, .inr (.inr (.inr (.inr (fun i => some (r i))))))
def wC (V : gV) (ad r1 r2 r3 : Nat → Nat) (nY : Nat) (ix bu : Nat → Nat) (np : Nat) (st sr : Nat → Nat) (sx tk : Nat → Nat → Nat) (rn sh sn : Nat → Nat) (yw nw : Nat) (yo ce wo : Nat → Nat) (po ne : Nat → Option Nat) (cs : Nat → Nat) (sv : Nat → Nat → Nat) (mk : Nat) (sp rs : Nat → Int) (bg dp : Nat) : va_W :=
  [(ad 0, .inr (0, [.ref (ad 1), .ref (ad 4), .ref (ad 12), .ref (ad 21), .int (nI bg), .int (nI dp)])),
   (ad 1, .inr (1, [.int (nI nY), .ref (ad 2), .ref (ad 3)])), (ad 2, aN V 12 ix), (ad 3, aN V 12 bu),
   (ad 4, .inr (2, [.int (nI np), .ref (ad 5), .ref (ad 6), .ref (ad 7), .ref (ad 8), .ref (ad 9), .ref (ad 10), .ref (ad 11), .int (nI yw)])),
   (ad 5, aN V 12 st), (ad 6, aN V 12 sr), (ad 7, aR V 12 r1), (ad 8, aR V 12 r2), (ad 9, aN V 12 rn), (ad 10, aL V 4 sh), (ad 11, aL V 4 sn),
   (ad 12, .inr (3, [.ref (ad 1), .int (nI nw), .ref (ad 13), .ref (ad 14), .ref (ad 15), .ref (ad 16), .ref (ad 17), .ref (ad 18), .ref (ad 19), .int (nI mk), .ref (ad 20)])),
   (ad 13, aN V 10 yo), (ad 14, aN V 10 ce), (ad 15, aN V 10 wo), (ad 16, aO V 10 po), (ad 17, aO V 10 ne), (ad 18, aN V 10 cs), (ad 19, aR V 10 r3), (ad 20, aI V 12 sp), (ad 21, aJ V 12 rs)] ++
  (gpool 12 r1 (fun i => aN V 16 (sx i)) ++ (gpool 12 r2 (fun i => aN V 4 (tk i)) ++ (gpool 10 r3 (fun i => aN V 10 (sv i)) ++ [])))
def wM (V : gV) (am : Nat → Nat) (th nY : Nat) (ix bu : Nat → Nat) (np : Nat) (st sr go ca : Nat → Nat) (nw : Nat) (yo ce wo : Nat → Nat) (po ne : Nat → Option Nat) (sv : Nat → Nat) (cl : Nat → Bool) (mk bg dp : Nat) (sh nx : Nat → Nat) (spn : Int) : va_W :=
  [(am 0, .inr (4, [.int (nI th), .int (nI nY), .ref (am 1), .ref (am 2), .int (nI np), .ref (am 3), .ref (am 4), .ref (am 5), .ref (am 6), .int (nI nw), .ref (am 7), .ref (am 8), .ref (am 9), .ref (am 10), .ref (am 11), .ref (am 12), .ref (am 13), .int (nI mk), .long (lN bg), .long (lN dp), .ref (am 14), .ref (am 15), .long (lI spn)])),
   (am 1, aN V 12 ix), (am 2, aN V 12 bu), (am 3, aN V 12 st), (am 4, aN V 12 sr), (am 5, aN V 192 go), (am 6, aN V 48 ca), (am 7, aN V 10 yo), (am 8, aN V 10 ce), (am 9, aN V 10 wo), (am 10, aO V 10 po), (am 11, aO V 10 ne), (am 12, aN V 100 sv), (am 13, aB V 100 cl), (am 14, aL V 4 sh), (am 15, aL V 4 nx)]
section GT
variable {p : Program} {l : Launch} {e : Env} {R : Room} {s : State} {m : MethodId} {args : Array Value} {below : List Frame} {meth : Method} {c : Code} {V : gV} {A : Nat → Prop} {H0 : Heap} {nL : Nat} {Q : State → Prop} {cells slots : Nat} {om : Heap → List Loc → Prop} {ws : va_W} {lv : List (Nat × Value)} {pc : Nat} {rest : List Value} {cc : ByteArray} {own : String}
theorem g_ncmp_eq (E : gE p s m args c cc nL own V) {a b : Nat} {off : Int} (tgt : Nat) (hd : decode cc pc = .ok (.if_icmp .eq off, 3)) (ht : (pc : Int) + off = (tgt : Int)) (ha : a < 2 ^ 31) (hb : b < 2 ^ 31) (kt : a = b → gg p l e R s m args below meth c nL Q cells slots om lv tgt rest) (kf : a ≠ b → gg p l e R s m args below meth c nL Q cells slots om lv (pc + 3) rest) : gg p l e R s m args below meth c nL Q cells slots om lv pc (.int (nI b) :: .int (nI a) :: rest) := g_icmp_eq E tgt hd ht (fun q => kt ((nI_eq ha hb).mp q)) (fun q => kf (fun z => q ((nI_eq ha hb).mpr z)))
theorem g_ncmp_ne (E : gE p s m args c cc nL own V) {a b : Nat} {off : Int} (tgt : Nat) (hd : decode cc pc = .ok (.if_icmp .ne off, 3)) (ht : (pc : Int) + off = (tgt : Int)) (ha : a < 2 ^ 31) (hb : b < 2 ^ 31) (kt : a ≠ b → gg p l e R s m args below meth c nL Q cells slots om lv tgt rest) (kf : a = b → gg p l e R s m args below meth c nL Q cells slots om lv (pc + 3) rest) : gg p l e R s m args below meth c nL Q cells slots om lv pc (.int (nI b) :: .int (nI a) :: rest) := g_icmp_ne E tgt hd ht (fun q => kt (fun z => q ((nI_eq ha hb).mpr z))) (fun q => kf ((nI_eq ha hb).mp q))
theorem g_ncmp_lt (E : gE p s m args c cc nL own V) {a b : Nat} {off : Int} (tgt : Nat) (hd : decode cc pc = .ok (.if_icmp .lt off, 3)) (ht : (pc : Int) + off = (tgt : Int)) (ha : a < 2 ^ 31) (hb : b < 2 ^ 31) (kt : a < b → gg p l e R s m args below meth c nL Q cells slots om lv tgt rest) (kf : b ≤ a → gg p l e R s m args below meth c nL Q cells slots om lv (pc + 3) rest) : gg p l e R s m args below meth c nL Q cells slots om lv pc (.int (nI b) :: .int (nI a) :: rest) := g_icmp_lt E tgt hd ht (fun q => kt ((nI_ltI ha hb).mp q)) (fun q => kf (by have z := mt (nI_ltI ha hb).mpr q; omega))
theorem g_ncmp_ge (E : gE p s m args c cc nL own V) {a b : Nat} {off : Int} (tgt : Nat) (hd : decode cc pc = .ok (.if_icmp .ge off, 3)) (ht : (pc : Int) + off = (tgt : Int)) (ha : a < 2 ^ 31) (hb : b < 2 ^ 31) (kt : b ≤ a → gg p l e R s m args below meth c nL Q cells slots om lv tgt rest) (kf : a < b → gg p l e R s m args below meth c nL Q cells slots om lv (pc + 3) rest) : gg p l e R s m args below meth c nL Q cells slots om lv pc (.int (nI b) :: .int (nI a) :: rest) := g_icmp_ge E tgt hd ht (fun q => kt ((nI_leI hb ha).mp q)) (fun q => kf (by have z := mt (nI_leI hb ha).mpr q; omega))
theorem g_ncmp_gt (E : gE p s m args c cc nL own V) {a b : Nat} {off : Int} (tgt : Nat) (hd : decode cc pc = .ok (.if_icmp .gt off, 3)) (ht : (pc : Int) + off = (tgt : Int)) (ha : a < 2 ^ 31) (hb : b < 2 ^ 31) (kt : b < a → gg p l e R s m args below meth c nL Q cells slots om lv tgt rest) (kf : a ≤ b → gg p l e R s m args below meth c nL Q cells slots om lv (pc + 3) rest) : gg p l e R s m args below meth c nL Q cells slots om lv pc (.int (nI b) :: .int (nI a) :: rest) := g_icmp_gt E tgt hd ht (fun q => kt ((nI_ltI hb ha).mp q)) (fun q => kf (by have z := mt (nI_ltI hb ha).mpr q; omega))
theorem g_ncmp_le (E : gE p s m args c cc nL own V) {a b : Nat} {off : Int} (tgt : Nat) (hd : decode cc pc = .ok (.if_icmp .le off, 3)) (ht : (pc : Int) + off = (tgt : Int)) (ha : a < 2 ^ 31) (hb : b < 2 ^ 31) (kt : a ≤ b → gg p l e R s m args below meth c nL Q cells slots om lv tgt rest) (kf : b < a → gg p l e R s m args below meth c nL Q cells slots om lv (pc + 3) rest) : gg p l e R s m args below meth c nL Q cells slots om lv pc (.int (nI b) :: .int (nI a) :: rest) := g_icmp_le E tgt hd ht (fun q => kt ((nI_leI ha hb).mp q)) (fun q => kf (by have z := mt (nI_leI ha hb).mpr q; omega))
theorem n0_eq {a : Nat} (h : a < 2 ^ 31) : nI a = 0 ↔ a = 0 := by rw [← nI_0]; exact nI_eq h (by omega)
theorem n0_lt {a : Nat} (h : a < 2 ^ 31) : 0 < nI a ↔ 0 < a := by rw [← nI_0]; exact nI_ltI (by omega) h
theorem n0_le {a : Nat} (h : a < 2 ^ 31) : nI a ≤ 0 ↔ a = 0 := by rw [← nI_0, nI_leI h (by omega)]; omega
theorem g_nif_eq (E : gE p s m args c cc nL own V) {a : Nat} {off : Int} (tgt : Nat) (hd : decode cc pc = .ok (.ifCond .eq off, 3)) (ht : (pc : Int) + off = (tgt : Int)) (ha : a < 2 ^ 31) (kt : a = 0 → gg p l e R s m args below meth c nL Q cells slots om lv tgt rest) (kf : a ≠ 0 → gg p l e R s m args below meth c nL Q cells slots om lv (pc + 3) rest) : gg p l e R s m args below meth c nL Q cells slots om lv pc (.int (nI a) :: rest) := g_if_eq E tgt hd ht (fun q => kt ((n0_eq ha).mp q)) (fun q => kf (fun z => q ((n0_eq ha).mpr z)))
theorem g_nif_ne (E : gE p s m args c cc nL own V) {a : Nat} {off : Int} (tgt : Nat) (hd : decode cc pc = .ok (.ifCond .ne off, 3)) (ht : (pc : Int) + off = (tgt : Int)) (ha : a < 2 ^ 31) (kt : a ≠ 0 → gg p l e R s m args below meth c nL Q cells slots om lv tgt rest) (kf : a = 0 → gg p l e R s m args below meth c nL Q cells slots om lv (pc + 3) rest) : gg p l e R s m args below meth c nL Q cells slots om lv pc (.int (nI a) :: rest) := g_if_ne E tgt hd ht (fun q => kt (fun z => q ((n0_eq ha).mpr z))) (fun q => kf ((n0_eq ha).mp q))
theorem g_nif_gt (E : gE p s m args c cc nL own V) {a : Nat} {off : Int} (tgt : Nat) (hd : decode cc pc = .ok (.ifCond .gt off, 3)) (ht : (pc : Int) + off = (tgt : Int)) (ha : a < 2 ^ 31) (kt : 0 < a → gg p l e R s m args below meth c nL Q cells slots om lv tgt rest) (kf : a = 0 → gg p l e R s m args below meth c nL Q cells slots om lv (pc + 3) rest) : gg p l e R s m args below meth c nL Q cells slots om lv pc (.int (nI a) :: rest) := g_if_gt E tgt hd ht (fun q => kt ((n0_lt ha).mp q)) (fun q => kf (by have z := mt (n0_lt ha).mpr q; omega))
theorem g_nif_le (E : gE p s m args c cc nL own V) {a : Nat} {off : Int} (tgt : Nat) (hd : decode cc pc = .ok (.ifCond .le off, 3)) (ht : (pc : Int) + off = (tgt : Int)) (ha : a < 2 ^ 31) (kt : a = 0 → gg p l e R s m args below meth c nL Q cells slots om lv tgt rest) (kf : 0 < a → gg p l e R s m args below meth c nL Q cells slots om lv (pc + 3) rest) : gg p l e R s m args below meth c nL Q cells slots om lv pc (.int (nI a) :: rest) := g_if_le E tgt hd ht (fun q => kt ((n0_le ha).mp q)) (fun q => kf (by have z := mt (n0_le ha).mpr q; omega))
theorem g_nif_lt (E : gE p s m args c cc nL own V) {a : Nat} {off : Int} (tgt : Nat) (hd : decode cc pc = .ok (.ifCond .lt off, 3)) (ht : (pc : Int) + off = (tgt : Int)) (ha : a < 2 ^ 31) (kf : gg p l e R s m args below meth c nL Q cells slots om lv (pc + 3) rest) : gg p l e R s m args below meth c nL Q cells slots om lv pc (.int (nI a) :: rest) := g_if_lt E tgt hd ht (fun q => absurd q (nI_pos ha)) (fun _ => kf)
theorem g_nif_ge (E : gE p s m args c cc nL own V) {a : Nat} {off : Int} (tgt : Nat) (hd : decode cc pc = .ok (.ifCond .ge off, 3)) (ht : (pc : Int) + off = (tgt : Int)) (ha : a < 2 ^ 31) (kt : gg p l e R s m args below meth c nL Q cells slots om lv tgt rest) : gg p l e R s m args below meth c nL Q cells slots om lv pc (.int (nI a) :: rest) := g_if_ge E tgt hd ht (fun _ => kt) (fun q => absurd (nI_pos' ha) q)
theorem g_bif_eq (E : gE p s m args c cc nL own V) {b : Bool} {off : Int} (tgt : Nat) (hd : decode cc pc = .ok (.ifCond .eq off, 3)) (ht : (pc : Int) + off = (tgt : Int)) (kt : b = false → gg p l e R s m args below meth c nL Q cells slots om lv tgt rest) (kf : b = true → gg p l e R s m args below meth c nL Q cells slots om lv (pc + 3) rest) : gg p l e R s m args below meth c nL Q cells slots om lv pc (.int (bI b) :: rest) := g_if_eq E tgt hd ht (fun q => kt (bI_0.mp q)) (fun q => kf (by cases b with | true => rfl | false => exact absurd rfl q))
theorem g_bif_ne (E : gE p s m args c cc nL own V) {b : Bool} {off : Int} (tgt : Nat) (hd : decode cc pc = .ok (.ifCond .ne off, 3)) (ht : (pc : Int) + off = (tgt : Int)) (kt : b = true → gg p l e R s m args below meth c nL Q cells slots om lv tgt rest) (kf : b = false → gg p l e R s m args below meth c nL Q cells slots om lv (pc + 3) rest) : gg p l e R s m args below meth c nL Q cells slots om lv pc (.int (bI b) :: rest) := g_if_ne E tgt hd ht (fun q => kt (by cases b with | true => rfl | false => exact absurd rfl q)) (fun q => kf (bI_0.mp q))
theorem g_ldN (E : gE p s m args c cc nL own V) (hO : gO om V ws) (q0 : Nat) {a n : Nat} {f : Nat → Nat} (ha : ws[q0]? = some (a, aN V n f)) {i : Nat} (hi : i < n) (hn : n < 2 ^ 31) (hd : decode cc pc = .ok (.iaload, 1)) (k : gg p l e R s m args below meth c nL Q cells slots om lv (pc + 1) (.int (nI (f i)) :: rest)) : gg p l e R s m args below meth c nL Q cells slots om lv pc (.int (nI i) :: .ref a :: rest) := g_iaload E hO q0 0 ha rfl hi hn hd k
theorem g_stN (E : gE p s m args c cc nL own V) (q0 : Nat) {a n : Nat} {f : Nat → Nat} (ha : ws[q0]? = some (a, aN V n f)) {i : Nat} {v : Nat} (hi : i < n) (hn : n < 2 ^ 31) {ws' : va_W} (hw : ws.set q0 (a, aN V n (va_up f i v)) = ws') (hd : decode cc pc = .ok (.iastore, 1)) (k : gg p l e R s m args below meth c nL Q cells slots (gW V A H0 ws') lv (pc + 1) rest) : gg p l e R s m args below meth c nL Q cells slots (gW V A H0 ws) lv pc (.int (nI v) :: .int (nI i) :: .ref a :: rest) := g_iastore E q0 0 ha rfl hi hn (by rw [upd_nI]; exact hw) hd k
theorem g_ldO (E : gE p s m args c cc nL own V) (hO : gO om V ws) (q0 : Nat) {a n : Nat} {f : Nat → Option Nat} (ha : ws[q0]? = some (a, aO V n f)) {i : Nat} (hi : i < n) (hn : n < 2 ^ 31) (hd : decode cc pc = .ok (.iaload, 1)) (k : gg p l e R s m args below meth c nL Q cells slots om lv (pc + 1) (.int (oN (f i)) :: rest)) : gg p l e R s m args below meth c nL Q cells slots om lv pc (.int (nI i) :: .ref a :: rest) := g_iaload E hO q0 0 ha rfl hi hn hd k
theorem g_stO (E : gE p s m args c cc nL own V) (q0 : Nat) {a n : Nat} {f : Nat → Option Nat} (ha : ws[q0]? = some (a, aO V n f)) {i : Nat} {v : Option Nat} (hi : i < n) (hn : n < 2 ^ 31) {ws' : va_W} (hw : ws.set q0 (a, aO V n (va_up f i v)) = ws') (hd : decode cc pc = .ok (.iastore, 1)) (k : gg p l e R s m args below meth c nL Q cells slots (gW V A H0 ws') lv (pc + 1) rest) : gg p l e R s m args below meth c nL Q cells slots (gW V A H0 ws) lv pc (.int (oN v) :: .int (nI i) :: .ref a :: rest) := g_iastore E q0 0 ha rfl hi hn (by rw [upd_oN]; exact hw) hd k
theorem g_ldI (E : gE p s m args c cc nL own V) (hO : gO om V ws) (q0 : Nat) {a n : Nat} {f : Nat → Int} (ha : ws[q0]? = some (a, aI V n f)) {i : Nat} (hi : i < n) (hn : n < 2 ^ 31) (hd : decode cc pc = .ok (.iaload, 1)) (k : gg p l e R s m args below meth c nL Q cells slots om lv (pc + 1) (.int (iI (f i)) :: rest)) : gg p l e R s m args below meth c nL Q cells slots om lv pc (.int (nI i) :: .ref a :: rest) := g_iaload E hO q0 0 ha rfl hi hn hd k
theorem g_stI (E : gE p s m args c cc nL own V) (q0 : Nat) {a n : Nat} {f : Nat → Int} (ha : ws[q0]? = some (a, aI V n f)) {i : Nat} {v : Int} (hi : i < n) (hn : n < 2 ^ 31) {ws' : va_W} (hw : ws.set q0 (a, aI V n (va_up f i v)) = ws') (hd : decode cc pc = .ok (.iastore, 1)) (k : gg p l e R s m args below meth c nL Q cells slots (gW V A H0 ws') lv (pc + 1) rest) : gg p l e R s m args below meth c nL Q cells slots (gW V A H0 ws) lv pc (.int (iI v) :: .int (nI i) :: .ref a :: rest) := g_iastore E q0 0 ha rfl hi hn (by rw [upd_iI]; exact hw) hd k
theorem g_ldL (E : gE p s m args c cc nL own V) (hO : gO om V ws) (q0 : Nat) {a n : Nat} {f : Nat → Nat} (ha : ws[q0]? = some (a, aL V n f)) {i : Nat} (hi : i < n) (hn : n < 2 ^ 31) (hd : decode cc pc = .ok (.laload, 1)) (k : gg p l e R s m args below meth c nL Q cells slots om lv (pc + 1) (.long (lN (f i)) :: rest)) : gg p l e R s m args below meth c nL Q cells slots om lv pc (.int (nI i) :: .ref a :: rest) := g_laload E hO q0 1 ha rfl hi hn hd k
theorem g_stL (E : gE p s m args c cc nL own V) (q0 : Nat) {a n : Nat} {f : Nat → Nat} (ha : ws[q0]? = some (a, aL V n f)) {i : Nat} {v : Nat} (hi : i < n) (hn : n < 2 ^ 31) {ws' : va_W} (hw : ws.set q0 (a, aL V n (va_up f i v)) = ws') (hd : decode cc pc = .ok (.lastore, 1)) (k : gg p l e R s m args below meth c nL Q cells slots (gW V A H0 ws') lv (pc + 1) rest) : gg p l e R s m args below meth c nL Q cells slots (gW V A H0 ws) lv pc (.long (lN v) :: .int (nI i) :: .ref a :: rest) := g_lastore E q0 1 ha rfl hi hn (by rw [upd_lN]; exact hw) hd k
theorem g_ldJ (E : gE p s m args c cc nL own V) (hO : gO om V ws) (q0 : Nat) {a n : Nat} {f : Nat → Int} (ha : ws[q0]? = some (a, aJ V n f)) {i : Nat} (hi : i < n) (hn : n < 2 ^ 31) (hd : decode cc pc = .ok (.laload, 1)) (k : gg p l e R s m args below meth c nL Q cells slots om lv (pc + 1) (.long (lI (f i)) :: rest)) : gg p l e R s m args below meth c nL Q cells slots om lv pc (.int (nI i) :: .ref a :: rest) := g_laload E hO q0 1 ha rfl hi hn hd k
theorem g_stJ (E : gE p s m args c cc nL own V) (q0 : Nat) {a n : Nat} {f : Nat → Int} (ha : ws[q0]? = some (a, aJ V n f)) {i : Nat} {v : Int} (hi : i < n) (hn : n < 2 ^ 31) {ws' : va_W} (hw : ws.set q0 (a, aJ V n (va_up f i v)) = ws') (hd : decode cc pc = .ok (.lastore, 1)) (k : gg p l e R s m args below meth c nL Q cells slots (gW V A H0 ws') lv (pc + 1) rest) : gg p l e R s m args below meth c nL Q cells slots (gW V A H0 ws) lv pc (.long (lI v) :: .int (nI i) :: .ref a :: rest) := g_lastore E q0 1 ha rfl hi hn (by rw [upd_lI]; exact hw) hd k
theorem upd_bI (f : Nat → Bool) (i : Nat) (v : Bool) : upd (fun j => bI (f j)) i (bI v) = fun j => bI (va_up f i v j) := by
  funext j; unfold upd va_up; split <;> rfl
theorem g_ldB (E : gE p s m args c cc nL own V) (hO : gO om V ws) (q0 : Nat) {a n : Nat} {f : Nat → Bool} (ha : ws[q0]? = some (a, aB V n f)) {i : Nat} (hi : i < n) (hn : n < 2 ^ 31) (hd : decode cc pc = .ok (.baload, 1)) (k : gg p l e R s m args below meth c nL Q cells slots om lv (pc + 1) (.int (bI (f i)) :: rest)) : gg p l e R s m args below meth c nL Q cells slots om lv pc (.int (nI i) :: .ref a :: rest) := g_baload E hO q0 ha hi hn hd k
theorem g_stB (E : gE p s m args c cc nL own V) (q0 : Nat) {a n : Nat} {f : Nat → Bool} (ha : ws[q0]? = some (a, aB V n f)) {i : Nat} {v : Bool} (hi : i < n) (hn : n < 2 ^ 31) {ws' : va_W} (hw : ws.set q0 (a, aB V n (va_up f i v)) = ws') (hd : decode cc pc = .ok (.bastore, 1)) (k : gg p l e R s m args below meth c nL Q cells slots (gW V A H0 ws') lv (pc + 1) rest) : gg p l e R s m args below meth c nL Q cells slots (gW V A H0 ws) lv pc (.int (bI v) :: .int (nI i) :: .ref a :: rest) := g_bastore E q0 ha (bI_01 v) hi hn (by rw [upd_bI]; exact hw) hd k
end GT
end
section
/-! rows of fields, words of calls, rooms: printed by wip/tools/sites.py -/
abbrev rm_Pa_init : Room := { frames := 1, cells := 0, slots := 0, locals := 20 }
abbrev rm_Wo_init : Room := { frames := 1, cells := 0, slots := 0, locals := 20 }
abbrev rm_Ar_fillI : Room := { frames := 0, cells := 0, slots := 0, locals := 0 }
abbrev rm_Ye_init : Room := { frames := 1, cells := 0, slots := 0, locals := 23 }
abbrev rm_Ma_maxI : Room := { frames := 0, cells := 0, slots := 0, locals := 0 }
abbrev rm_Ma_minI : Room := { frames := 0, cells := 0, slots := 0, locals := 0 }
abbrev rm_CY_init : Room := { frames := 2, cells := 0, slots := 0, locals := 44 }
abbrev rm_CY_isWithin : Room := { frames := 0, cells := 0, slots := 0, locals := 0 }
abbrev rm_Ye_has : Room := { frames := 0, cells := 0, slots := 0, locals := 0 }
abbrev rm_CY_refuseUnless : Room := { frames := 6, cells := 0, slots := 0, locals := 100 }
abbrev rm_CY_index : Room := { frames := 7, cells := 0, slots := 0, locals := 120 }
abbrev rm_CY_budget : Room := { frames := 7, cells := 0, slots := 0, locals := 120 }
abbrev rm_CY_refuseIfFull : Room := { frames := 6, cells := 0, slots := 0, locals := 100 }
abbrev rm_Pa_setGoing : Room := { frames := 0, cells := 0, slots := 0, locals := 0 }
abbrev rm_Pa_add : Room := { frames := 1, cells := 0, slots := 0, locals := 24 }
abbrev rm_CY_part : Room := { frames := 7, cells := 0, slots := 0, locals := 120 }
abbrev rm_Pa_has : Room := { frames := 0, cells := 0, slots := 0, locals := 0 }
abbrev rm_Pa_hasState : Room := { frames := 1, cells := 0, slots := 0, locals := 21 }
abbrev rm_Pa_going : Room := { frames := 0, cells := 0, slots := 0, locals := 0 }
abbrev rm_CY_moves : Room := { frames := 7, cells := 0, slots := 0, locals := 120 }
abbrev rm_CY_care : Room := { frames := 7, cells := 0, slots := 0, locals := 120 }
abbrev rm_Ar_fillJ : Room := { frames := 0, cells := 0, slots := 0, locals := 0 }
abbrev rm_Pa_begin : Room := { frames := 1, cells := 0, slots := 0, locals := 24 }
abbrev rm_CY_holds : Room := { frames := 0, cells := 0, slots := 0, locals := 0 }
abbrev rm_Pa_wear : Room := { frames := 1, cells := 0, slots := 0, locals := 40 }
abbrev rm_Pa_enter : Room := { frames := 2, cells := 0, slots := 0, locals := 65 }
abbrev rm_Pa_goTo : Room := { frames := 3, cells := 0, slots := 0, locals := 87 }
abbrev rm_CY_share : Room := { frames := 7, cells := 0, slots := 0, locals := 120 }
abbrev rm_Ye_costIn : Room := { frames := 0, cells := 0, slots := 0, locals := 0 }
abbrev rm_Pa_careTaken : Room := { frames := 0, cells := 0, slots := 0, locals := 0 }
abbrev rm_CY_cares : Room := { frames := 7, cells := 0, slots := 0, locals := 120 }
abbrev rm_Pa_greatestState : Room := { frames := 0, cells := 0, slots := 0, locals := 0 }
abbrev rm_CY_most : Room := { frames := 7, cells := 0, slots := 0, locals := 120 }
abbrev rm_Wo_add : Room := { frames := 0, cells := 0, slots := 0, locals := 0 }
abbrev rm_CY_work : Room := { frames := 7, cells := 0, slots := 0, locals := 120 }
abbrev rm_Wo_has : Room := { frames := 0, cells := 0, slots := 0, locals := 0 }
abbrev rm_CY_join : Room := { frames := 7, cells := 0, slots := 0, locals := 120 }
abbrev rm_CY_withBit : Room := { frames := 0, cells := 0, slots := 0, locals := 0 }
abbrev rm_CY_clash : Room := { frames := 7, cells := 0, slots := 0, locals := 120 }
abbrev rm_CY_needs : Room := { frames := 7, cells := 0, slots := 0, locals := 120 }
abbrev rm_Wo_worthOf : Room := { frames := 1, cells := 0, slots := 0, locals := 21 }
abbrev rm_Wo_savedWithEarlier : Room := { frames := 1, cells := 0, slots := 0, locals := 21 }
abbrev rm_Wo_spend : Room := { frames := 2, cells := 0, slots := 0, locals := 45 }
abbrev rm_Wo_all : Room := { frames := 0, cells := 0, slots := 0, locals := 0 }
abbrev rm_Wo_spentOverBudgets : Room := { frames := 1, cells := 0, slots := 0, locals := 21 }
abbrev rm_Wo_spentInAll : Room := { frames := 0, cells := 0, slots := 0, locals := 0 }
abbrev rm_Wo_lacksNeeded : Room := { frames := 1, cells := 0, slots := 0, locals := 21 }
abbrev rm_Wo_agree : Room := { frames := 2, cells := 0, slots := 0, locals := 44 }
abbrev rm_Wo_makeChoice : Room := { frames := 3, cells := 0, slots := 0, locals := 68 }
abbrev rm_CY_renewParts : Room := { frames := 1, cells := 0, slots := 0, locals := 23 }
abbrev rm_CY_choose : Room := { frames := 4, cells := 0, slots := 0, locals := 96 }
abbrev rm_CY_chosen : Room := { frames := 7, cells := 0, slots := 0, locals := 120 }
abbrev rm_CY_costs : Room := { frames := 7, cells := 0, slots := 0, locals := 120 }
abbrev rm_CY_lacks : Room := { frames := 3, cells := 0, slots := 0, locals := 68 }
abbrev rm_CY_money : Room := { frames := 7, cells := 0, slots := 0, locals := 120 }
abbrev rm_CY_takeCareFromReserves : Room := { frames := 3, cells := 0, slots := 0, locals := 87 }
abbrev rm_CY_reckonReserves : Room := { frames := 4, cells := 0, slots := 0, locals := 109 }
abbrev rm_CY_reserve : Room := { frames := 7, cells := 0, slots := 0, locals := 132 }
abbrev rm_CY_shortIn : Room := { frames := 5, cells := 0, slots := 0, locals := 132 }
abbrev rm_Ma_maxJ : Room := { frames := 0, cells := 0, slots := 0, locals := 0 }
abbrev rm_Lo_restBehind : Room := { frames := 1, cells := 0, slots := 0, locals := 23 }
abbrev rm_Lo_leastPayment : Room := { frames := 2, cells := 0, slots := 0, locals := 52 }
abbrev rm_Lo_isOne : Room := { frames := 1, cells := 0, slots := 0, locals := 22 }
abbrev rm_CY_payment : Room := { frames := 7, cells := 0, slots := 0, locals := 120 }
abbrev rm_CY_rest : Room := { frames := 7, cells := 0, slots := 0, locals := 120 }
abbrev rm_Mo_init : Room := { frames := 1, cells := 0, slots := 0, locals := 20 }
abbrev rm_Mo_thrown : Room := { frames := 0, cells := 0, slots := 0, locals := 0 }
abbrev rm_Mo_refuses : Room := { frames := 0, cells := 0, slots := 0, locals := 0 }
abbrev rm_Mo_within : Room := { frames := 0, cells := 0, slots := 0, locals := 0 }
abbrev rm_Mo_isYear : Room := { frames := 1, cells := 0, slots := 0, locals := 25 }
abbrev rm_Mo_isPart : Room := { frames := 1, cells := 0, slots := 0, locals := 25 }
abbrev rm_Mo_isState : Room := { frames := 2, cells := 0, slots := 0, locals := 46 }
abbrev rm_Mo_isWork : Room := { frames := 1, cells := 0, slots := 0, locals := 25 }
abbrev rm_Mo_index : Room := { frames := 2, cells := 0, slots := 0, locals := 46 }
abbrev rm_Mo_budget : Room := { frames := 2, cells := 0, slots := 0, locals := 46 }
abbrev rm_Mo_part : Room := { frames := 1, cells := 0, slots := 0, locals := 25 }
abbrev rm_Mo_leaving : Room := { frames := 0, cells := 0, slots := 0, locals := 0 }
abbrev rm_Mo_moves : Room := { frames := 3, cells := 0, slots := 0, locals := 68 }
abbrev rm_Mo_care : Room := { frames := 3, cells := 0, slots := 0, locals := 68 }
abbrev rm_Mo_begins : Room := { frames := 0, cells := 0, slots := 0, locals := 0 }
abbrev rm_Mo_learn : Room := { frames := 1, cells := 0, slots := 0, locals := 25 }
abbrev rm_Mo_share : Room := { frames := 3, cells := 0, slots := 0, locals := 68 }
abbrev rm_Mo_careOf : Room := { frames := 2, cells := 0, slots := 0, locals := 52 }
abbrev rm_Mo_cares : Room := { frames := 3, cells := 0, slots := 0, locals := 79 }
abbrev rm_Mo_most : Room := { frames := 2, cells := 0, slots := 0, locals := 52 }
abbrev rm_Mo_work : Room := { frames := 2, cells := 0, slots := 0, locals := 46 }
abbrev rm_Mo_areTwo : Room := { frames := 2, cells := 0, slots := 0, locals := 46 }
abbrev rm_Mo_join : Room := { frames := 3, cells := 0, slots := 0, locals := 68 }
abbrev rm_Mo_clash : Room := { frames := 3, cells := 0, slots := 0, locals := 68 }
abbrev rm_Mo_needs : Room := { frames := 3, cells := 0, slots := 0, locals := 68 }
abbrev rm_Mo_has : Room := { frames := 0, cells := 0, slots := 0, locals := 0 }
abbrev rm_Mo_goesTogether : Room := { frames := 1, cells := 0, slots := 0, locals := 21 }
abbrev rm_Mo_costOf : Room := { frames := 1, cells := 0, slots := 0, locals := 21 }
abbrev rm_Mo_lackOf : Room := { frames := 2, cells := 0, slots := 0, locals := 47 }
abbrev rm_Mo_choose : Room := { frames := 3, cells := 0, slots := 0, locals := 73 }
abbrev rm_Mo_chosen : Room := { frames := 2, cells := 0, slots := 0, locals := 46 }
abbrev rm_Mo_costs : Room := { frames := 2, cells := 0, slots := 0, locals := 47 }
abbrev rm_Mo_lacks : Room := { frames := 3, cells := 0, slots := 0, locals := 73 }
abbrev rm_Mo_money : Room := { frames := 1, cells := 0, slots := 0, locals := 25 }
abbrev rm_Mo_reserveOf : Room := { frames := 3, cells := 0, slots := 0, locals := 79 }
abbrev rm_Mo_reserve : Room := { frames := 4, cells := 0, slots := 0, locals := 104 }
abbrev rm_Mo_shortIn : Room := { frames := 4, cells := 0, slots := 0, locals := 104 }
abbrev rm_Mo_restOf : Room := { frames := 0, cells := 0, slots := 0, locals := 0 }
abbrev rm_Mo_paymentOf : Room := { frames := 1, cells := 0, slots := 0, locals := 28 }
abbrev rm_Mo_isLoan : Room := { frames := 1, cells := 0, slots := 0, locals := 25 }
abbrev rm_Mo_payment : Room := { frames := 2, cells := 0, slots := 0, locals := 57 }
abbrev rm_Mo_rest : Room := { frames := 2, cells := 0, slots := 0, locals := 57 }
abbrev rm_La_cell : Room := { frames := 0, cells := 0, slots := 0, locals := 0 }
abbrev rm_La_index : Room := { frames := 8, cells := 0, slots := 0, locals := 143 }
abbrev rm_La_budget : Room := { frames := 8, cells := 0, slots := 0, locals := 143 }
abbrev rm_La_part : Room := { frames := 8, cells := 0, slots := 0, locals := 142 }
abbrev rm_La_moves : Room := { frames := 8, cells := 0, slots := 0, locals := 146 }
abbrev rm_La_care : Room := { frames := 8, cells := 0, slots := 0, locals := 144 }
abbrev rm_La_share : Room := { frames := 8, cells := 0, slots := 0, locals := 143 }
abbrev rm_La_cares : Room := { frames := 8, cells := 0, slots := 0, locals := 142 }
abbrev rm_La_most : Room := { frames := 8, cells := 0, slots := 0, locals := 142 }
abbrev rm_La_work : Room := { frames := 8, cells := 0, slots := 0, locals := 144 }
abbrev rm_La_join : Room := { frames := 8, cells := 0, slots := 0, locals := 144 }
abbrev rm_La_clash : Room := { frames := 8, cells := 0, slots := 0, locals := 144 }
abbrev rm_La_needs : Room := { frames := 8, cells := 0, slots := 0, locals := 143 }
abbrev rm_La_chosen : Room := { frames := 8, cells := 0, slots := 0, locals := 141 }
abbrev rm_La_costs : Room := { frames := 8, cells := 0, slots := 0, locals := 141 }
abbrev rm_La_money : Room := { frames := 8, cells := 0, slots := 0, locals := 142 }
abbrev rm_La_reserve : Room := { frames := 8, cells := 0, slots := 0, locals := 153 }
abbrev rm_La_payment : Room := { frames := 8, cells := 0, slots := 0, locals := 143 }
abbrev rm_La_rest : Room := { frames := 8, cells := 0, slots := 0, locals := 144 }
theorem kd_Pa_init : y_Pa_init.cls ≠ "java/lang/invoke/MethodHandle" ∧ y_Pa_init.cls ≠ "java/lang/invoke/VarHandle" ∧ (parseMethodDescriptor y_Pa_init.desc).map (fun d => d.parameters.length) = some 0 := by decide +kernel
theorem kd_Wo_init : y_Wo_init.cls ≠ "java/lang/invoke/MethodHandle" ∧ y_Wo_init.cls ≠ "java/lang/invoke/VarHandle" ∧ (parseMethodDescriptor y_Wo_init.desc).map (fun d => d.parameters.length) = some 1 := by decide +kernel
theorem kd_Ar_fillI : y_Ar_fillI.cls ≠ "java/lang/invoke/MethodHandle" ∧ y_Ar_fillI.cls ≠ "java/lang/invoke/VarHandle" ∧ (parseMethodDescriptor y_Ar_fillI.desc).map (fun d => d.parameters.length) = some 2 := by decide +kernel
theorem kd_Ye_init : y_Ye_init.cls ≠ "java/lang/invoke/MethodHandle" ∧ y_Ye_init.cls ≠ "java/lang/invoke/VarHandle" ∧ (parseMethodDescriptor y_Ye_init.desc).map (fun d => d.parameters.length) = some 1 := by decide +kernel
theorem kd_Ma_maxI : y_Ma_maxI.cls ≠ "java/lang/invoke/MethodHandle" ∧ y_Ma_maxI.cls ≠ "java/lang/invoke/VarHandle" ∧ (parseMethodDescriptor y_Ma_maxI.desc).map (fun d => d.parameters.length) = some 2 := by decide +kernel
theorem kd_Ma_minI : y_Ma_minI.cls ≠ "java/lang/invoke/MethodHandle" ∧ y_Ma_minI.cls ≠ "java/lang/invoke/VarHandle" ∧ (parseMethodDescriptor y_Ma_minI.desc).map (fun d => d.parameters.length) = some 2 := by decide +kernel
theorem kd_CY_init : y_CY_init.cls ≠ "java/lang/invoke/MethodHandle" ∧ y_CY_init.cls ≠ "java/lang/invoke/VarHandle" ∧ (parseMethodDescriptor y_CY_init.desc).map (fun d => d.parameters.length) = some 1 := by decide +kernel
theorem kd_CY_isWithin : y_CY_isWithin.cls ≠ "java/lang/invoke/MethodHandle" ∧ y_CY_isWithin.cls ≠ "java/lang/invoke/VarHandle" ∧ (parseMethodDescriptor y_CY_isWithin.desc).map (fun d => d.parameters.length) = some 3 := by decide +kernel
theorem kd_Ye_has : y_Ye_has.cls ≠ "java/lang/invoke/MethodHandle" ∧ y_Ye_has.cls ≠ "java/lang/invoke/VarHandle" ∧ (parseMethodDescriptor y_Ye_has.desc).map (fun d => d.parameters.length) = some 1 := by decide +kernel
theorem kd_CY_refuseUnless : y_CY_refuseUnless.cls ≠ "java/lang/invoke/MethodHandle" ∧ y_CY_refuseUnless.cls ≠ "java/lang/invoke/VarHandle" ∧ (parseMethodDescriptor y_CY_refuseUnless.desc).map (fun d => d.parameters.length) = some 1 := by decide +kernel
theorem kd_CY_index : y_CY_index.cls ≠ "java/lang/invoke/MethodHandle" ∧ y_CY_index.cls ≠ "java/lang/invoke/VarHandle" ∧ (parseMethodDescriptor y_CY_index.desc).map (fun d => d.parameters.length) = some 2 := by decide +kernel
theorem kd_CY_budget : y_CY_budget.cls ≠ "java/lang/invoke/MethodHandle" ∧ y_CY_budget.cls ≠ "java/lang/invoke/VarHandle" ∧ (parseMethodDescriptor y_CY_budget.desc).map (fun d => d.parameters.length) = some 2 := by decide +kernel
theorem kd_CY_refuseIfFull : y_CY_refuseIfFull.cls ≠ "java/lang/invoke/MethodHandle" ∧ y_CY_refuseIfFull.cls ≠ "java/lang/invoke/VarHandle" ∧ (parseMethodDescriptor y_CY_refuseIfFull.desc).map (fun d => d.parameters.length) = some 1 := by decide +kernel
theorem kd_Pa_setGoing : y_Pa_setGoing.cls ≠ "java/lang/invoke/MethodHandle" ∧ y_Pa_setGoing.cls ≠ "java/lang/invoke/VarHandle" ∧ (parseMethodDescriptor y_Pa_setGoing.desc).map (fun d => d.parameters.length) = some 4 := by decide +kernel
theorem kd_Pa_add : y_Pa_add.cls ≠ "java/lang/invoke/MethodHandle" ∧ y_Pa_add.cls ≠ "java/lang/invoke/VarHandle" ∧ (parseMethodDescriptor y_Pa_add.desc).map (fun d => d.parameters.length) = some 2 := by decide +kernel
theorem kd_CY_part : y_CY_part.cls ≠ "java/lang/invoke/MethodHandle" ∧ y_CY_part.cls ≠ "java/lang/invoke/VarHandle" ∧ (parseMethodDescriptor y_CY_part.desc).map (fun d => d.parameters.length) = some 2 := by decide +kernel
theorem kd_Pa_has : y_Pa_has.cls ≠ "java/lang/invoke/MethodHandle" ∧ y_Pa_has.cls ≠ "java/lang/invoke/VarHandle" ∧ (parseMethodDescriptor y_Pa_has.desc).map (fun d => d.parameters.length) = some 1 := by decide +kernel
theorem kd_Pa_hasState : y_Pa_hasState.cls ≠ "java/lang/invoke/MethodHandle" ∧ y_Pa_hasState.cls ≠ "java/lang/invoke/VarHandle" ∧ (parseMethodDescriptor y_Pa_hasState.desc).map (fun d => d.parameters.length) = some 2 := by decide +kernel
theorem kd_Pa_going : y_Pa_going.cls ≠ "java/lang/invoke/MethodHandle" ∧ y_Pa_going.cls ≠ "java/lang/invoke/VarHandle" ∧ (parseMethodDescriptor y_Pa_going.desc).map (fun d => d.parameters.length) = some 3 := by decide +kernel
theorem kd_CY_moves : y_CY_moves.cls ≠ "java/lang/invoke/MethodHandle" ∧ y_CY_moves.cls ≠ "java/lang/invoke/VarHandle" ∧ (parseMethodDescriptor y_CY_moves.desc).map (fun d => d.parameters.length) = some 4 := by decide +kernel
theorem kd_CY_care : y_CY_care.cls ≠ "java/lang/invoke/MethodHandle" ∧ y_CY_care.cls ≠ "java/lang/invoke/VarHandle" ∧ (parseMethodDescriptor y_CY_care.desc).map (fun d => d.parameters.length) = some 3 := by decide +kernel
theorem kd_Ar_fillJ : y_Ar_fillJ.cls ≠ "java/lang/invoke/MethodHandle" ∧ y_Ar_fillJ.cls ≠ "java/lang/invoke/VarHandle" ∧ (parseMethodDescriptor y_Ar_fillJ.desc).map (fun d => d.parameters.length) = some 2 := by decide +kernel
theorem kd_Pa_begin : y_Pa_begin.cls ≠ "java/lang/invoke/MethodHandle" ∧ y_Pa_begin.cls ≠ "java/lang/invoke/VarHandle" ∧ (parseMethodDescriptor y_Pa_begin.desc).map (fun d => d.parameters.length) = some 1 := by decide +kernel
theorem kd_CY_holds : y_CY_holds.cls ≠ "java/lang/invoke/MethodHandle" ∧ y_CY_holds.cls ≠ "java/lang/invoke/VarHandle" ∧ (parseMethodDescriptor y_CY_holds.desc).map (fun d => d.parameters.length) = some 2 := by decide +kernel
theorem kd_Pa_wear : y_Pa_wear.cls ≠ "java/lang/invoke/MethodHandle" ∧ y_Pa_wear.cls ≠ "java/lang/invoke/VarHandle" ∧ (parseMethodDescriptor y_Pa_wear.desc).map (fun d => d.parameters.length) = some 1 := by decide +kernel
theorem kd_Pa_enter : y_Pa_enter.cls ≠ "java/lang/invoke/MethodHandle" ∧ y_Pa_enter.cls ≠ "java/lang/invoke/VarHandle" ∧ (parseMethodDescriptor y_Pa_enter.desc).map (fun d => d.parameters.length) = some 2 := by decide +kernel
theorem kd_Pa_goTo : y_Pa_goTo.cls ≠ "java/lang/invoke/MethodHandle" ∧ y_Pa_goTo.cls ≠ "java/lang/invoke/VarHandle" ∧ (parseMethodDescriptor y_Pa_goTo.desc).map (fun d => d.parameters.length) = some 2 := by decide +kernel
theorem kd_CY_share : y_CY_share.cls ≠ "java/lang/invoke/MethodHandle" ∧ y_CY_share.cls ≠ "java/lang/invoke/VarHandle" ∧ (parseMethodDescriptor y_CY_share.desc).map (fun d => d.parameters.length) = some 3 := by decide +kernel
theorem kd_Ye_costIn : y_Ye_costIn.cls ≠ "java/lang/invoke/MethodHandle" ∧ y_Ye_costIn.cls ≠ "java/lang/invoke/VarHandle" ∧ (parseMethodDescriptor y_Ye_costIn.desc).map (fun d => d.parameters.length) = some 2 := by decide +kernel
theorem kd_Pa_careTaken : y_Pa_careTaken.cls ≠ "java/lang/invoke/MethodHandle" ∧ y_Pa_careTaken.cls ≠ "java/lang/invoke/VarHandle" ∧ (parseMethodDescriptor y_Pa_careTaken.desc).map (fun d => d.parameters.length) = some 1 := by decide +kernel
theorem kd_CY_cares : y_CY_cares.cls ≠ "java/lang/invoke/MethodHandle" ∧ y_CY_cares.cls ≠ "java/lang/invoke/VarHandle" ∧ (parseMethodDescriptor y_CY_cares.desc).map (fun d => d.parameters.length) = some 2 := by decide +kernel
theorem kd_Pa_greatestState : y_Pa_greatestState.cls ≠ "java/lang/invoke/MethodHandle" ∧ y_Pa_greatestState.cls ≠ "java/lang/invoke/VarHandle" ∧ (parseMethodDescriptor y_Pa_greatestState.desc).map (fun d => d.parameters.length) = some 1 := by decide +kernel
theorem kd_CY_most : y_CY_most.cls ≠ "java/lang/invoke/MethodHandle" ∧ y_CY_most.cls ≠ "java/lang/invoke/VarHandle" ∧ (parseMethodDescriptor y_CY_most.desc).map (fun d => d.parameters.length) = some 2 := by decide +kernel
theorem kd_Wo_add : y_Wo_add.cls ≠ "java/lang/invoke/MethodHandle" ∧ y_Wo_add.cls ≠ "java/lang/invoke/VarHandle" ∧ (parseMethodDescriptor y_Wo_add.desc).map (fun d => d.parameters.length) = some 4 := by decide +kernel
theorem kd_CY_work : y_CY_work.cls ≠ "java/lang/invoke/MethodHandle" ∧ y_CY_work.cls ≠ "java/lang/invoke/VarHandle" ∧ (parseMethodDescriptor y_CY_work.desc).map (fun d => d.parameters.length) = some 4 := by decide +kernel
theorem kd_Wo_has : y_Wo_has.cls ≠ "java/lang/invoke/MethodHandle" ∧ y_Wo_has.cls ≠ "java/lang/invoke/VarHandle" ∧ (parseMethodDescriptor y_Wo_has.desc).map (fun d => d.parameters.length) = some 1 := by decide +kernel
theorem kd_CY_join : y_CY_join.cls ≠ "java/lang/invoke/MethodHandle" ∧ y_CY_join.cls ≠ "java/lang/invoke/VarHandle" ∧ (parseMethodDescriptor y_CY_join.desc).map (fun d => d.parameters.length) = some 3 := by decide +kernel
theorem kd_CY_withBit : y_CY_withBit.cls ≠ "java/lang/invoke/MethodHandle" ∧ y_CY_withBit.cls ≠ "java/lang/invoke/VarHandle" ∧ (parseMethodDescriptor y_CY_withBit.desc).map (fun d => d.parameters.length) = some 3 := by decide +kernel
theorem kd_CY_clash : y_CY_clash.cls ≠ "java/lang/invoke/MethodHandle" ∧ y_CY_clash.cls ≠ "java/lang/invoke/VarHandle" ∧ (parseMethodDescriptor y_CY_clash.desc).map (fun d => d.parameters.length) = some 3 := by decide +kernel
theorem kd_CY_needs : y_CY_needs.cls ≠ "java/lang/invoke/MethodHandle" ∧ y_CY_needs.cls ≠ "java/lang/invoke/VarHandle" ∧ (parseMethodDescriptor y_CY_needs.desc).map (fun d => d.parameters.length) = some 2 := by decide +kernel
theorem kd_Wo_worthOf : y_Wo_worthOf.cls ≠ "java/lang/invoke/MethodHandle" ∧ y_Wo_worthOf.cls ≠ "java/lang/invoke/VarHandle" ∧ (parseMethodDescriptor y_Wo_worthOf.desc).map (fun d => d.parameters.length) = some 1 := by decide +kernel
theorem kd_Wo_savedWithEarlier : y_Wo_savedWithEarlier.cls ≠ "java/lang/invoke/MethodHandle" ∧ y_Wo_savedWithEarlier.cls ≠ "java/lang/invoke/VarHandle" ∧ (parseMethodDescriptor y_Wo_savedWithEarlier.desc).map (fun d => d.parameters.length) = some 2 := by decide +kernel
theorem kd_Wo_spend : y_Wo_spend.cls ≠ "java/lang/invoke/MethodHandle" ∧ y_Wo_spend.cls ≠ "java/lang/invoke/VarHandle" ∧ (parseMethodDescriptor y_Wo_spend.desc).map (fun d => d.parameters.length) = some 1 := by decide +kernel
theorem kd_Wo_all : y_Wo_all.cls ≠ "java/lang/invoke/MethodHandle" ∧ y_Wo_all.cls ≠ "java/lang/invoke/VarHandle" ∧ (parseMethodDescriptor y_Wo_all.desc).map (fun d => d.parameters.length) = some 0 := by decide +kernel
theorem kd_Wo_spentOverBudgets : y_Wo_spentOverBudgets.cls ≠ "java/lang/invoke/MethodHandle" ∧ y_Wo_spentOverBudgets.cls ≠ "java/lang/invoke/VarHandle" ∧ (parseMethodDescriptor y_Wo_spentOverBudgets.desc).map (fun d => d.parameters.length) = some 0 := by decide +kernel
theorem kd_Wo_spentInAll : y_Wo_spentInAll.cls ≠ "java/lang/invoke/MethodHandle" ∧ y_Wo_spentInAll.cls ≠ "java/lang/invoke/VarHandle" ∧ (parseMethodDescriptor y_Wo_spentInAll.desc).map (fun d => d.parameters.length) = some 0 := by decide +kernel
theorem kd_Wo_lacksNeeded : y_Wo_lacksNeeded.cls ≠ "java/lang/invoke/MethodHandle" ∧ y_Wo_lacksNeeded.cls ≠ "java/lang/invoke/VarHandle" ∧ (parseMethodDescriptor y_Wo_lacksNeeded.desc).map (fun d => d.parameters.length) = some 2 := by decide +kernel
theorem kd_Wo_agree : y_Wo_agree.cls ≠ "java/lang/invoke/MethodHandle" ∧ y_Wo_agree.cls ≠ "java/lang/invoke/VarHandle" ∧ (parseMethodDescriptor y_Wo_agree.desc).map (fun d => d.parameters.length) = some 1 := by decide +kernel
theorem kd_Wo_makeChoice : y_Wo_makeChoice.cls ≠ "java/lang/invoke/MethodHandle" ∧ y_Wo_makeChoice.cls ≠ "java/lang/invoke/VarHandle" ∧ (parseMethodDescriptor y_Wo_makeChoice.desc).map (fun d => d.parameters.length) = some 0 := by decide +kernel
theorem kd_CY_renewParts : y_CY_renewParts.cls ≠ "java/lang/invoke/MethodHandle" ∧ y_CY_renewParts.cls ≠ "java/lang/invoke/VarHandle" ∧ (parseMethodDescriptor y_CY_renewParts.desc).map (fun d => d.parameters.length) = some 0 := by decide +kernel
theorem kd_CY_choose : y_CY_choose.cls ≠ "java/lang/invoke/MethodHandle" ∧ y_CY_choose.cls ≠ "java/lang/invoke/VarHandle" ∧ (parseMethodDescriptor y_CY_choose.desc).map (fun d => d.parameters.length) = some 0 := by decide +kernel
theorem kd_CY_chosen : y_CY_chosen.cls ≠ "java/lang/invoke/MethodHandle" ∧ y_CY_chosen.cls ≠ "java/lang/invoke/VarHandle" ∧ (parseMethodDescriptor y_CY_chosen.desc).map (fun d => d.parameters.length) = some 1 := by decide +kernel
theorem kd_CY_costs : y_CY_costs.cls ≠ "java/lang/invoke/MethodHandle" ∧ y_CY_costs.cls ≠ "java/lang/invoke/VarHandle" ∧ (parseMethodDescriptor y_CY_costs.desc).map (fun d => d.parameters.length) = some 1 := by decide +kernel
theorem kd_CY_lacks : y_CY_lacks.cls ≠ "java/lang/invoke/MethodHandle" ∧ y_CY_lacks.cls ≠ "java/lang/invoke/VarHandle" ∧ (parseMethodDescriptor y_CY_lacks.desc).map (fun d => d.parameters.length) = some 1 := by decide +kernel
theorem kd_CY_money : y_CY_money.cls ≠ "java/lang/invoke/MethodHandle" ∧ y_CY_money.cls ≠ "java/lang/invoke/VarHandle" ∧ (parseMethodDescriptor y_CY_money.desc).map (fun d => d.parameters.length) = some 2 := by decide +kernel
theorem kd_CY_takeCareFromReserves : y_CY_takeCareFromReserves.cls ≠ "java/lang/invoke/MethodHandle" ∧ y_CY_takeCareFromReserves.cls ≠ "java/lang/invoke/VarHandle" ∧ (parseMethodDescriptor y_CY_takeCareFromReserves.desc).map (fun d => d.parameters.length) = some 1 := by decide +kernel
theorem kd_CY_reckonReserves : y_CY_reckonReserves.cls ≠ "java/lang/invoke/MethodHandle" ∧ y_CY_reckonReserves.cls ≠ "java/lang/invoke/VarHandle" ∧ (parseMethodDescriptor y_CY_reckonReserves.desc).map (fun d => d.parameters.length) = some 0 := by decide +kernel
theorem kd_CY_reserve : y_CY_reserve.cls ≠ "java/lang/invoke/MethodHandle" ∧ y_CY_reserve.cls ≠ "java/lang/invoke/VarHandle" ∧ (parseMethodDescriptor y_CY_reserve.desc).map (fun d => d.parameters.length) = some 1 := by decide +kernel
theorem kd_CY_shortIn : y_CY_shortIn.cls ≠ "java/lang/invoke/MethodHandle" ∧ y_CY_shortIn.cls ≠ "java/lang/invoke/VarHandle" ∧ (parseMethodDescriptor y_CY_shortIn.desc).map (fun d => d.parameters.length) = some 0 := by decide +kernel
theorem kd_Ma_maxJ : y_Ma_maxJ.cls ≠ "java/lang/invoke/MethodHandle" ∧ y_Ma_maxJ.cls ≠ "java/lang/invoke/VarHandle" ∧ (parseMethodDescriptor y_Ma_maxJ.desc).map (fun d => d.parameters.length) = some 2 := by decide +kernel
theorem kd_Lo_restBehind : y_Lo_restBehind.cls ≠ "java/lang/invoke/MethodHandle" ∧ y_Lo_restBehind.cls ≠ "java/lang/invoke/VarHandle" ∧ (parseMethodDescriptor y_Lo_restBehind.desc).map (fun d => d.parameters.length) = some 4 := by decide +kernel
theorem kd_Lo_leastPayment : y_Lo_leastPayment.cls ≠ "java/lang/invoke/MethodHandle" ∧ y_Lo_leastPayment.cls ≠ "java/lang/invoke/VarHandle" ∧ (parseMethodDescriptor y_Lo_leastPayment.desc).map (fun d => d.parameters.length) = some 3 := by decide +kernel
theorem kd_Lo_isOne : y_Lo_isOne.cls ≠ "java/lang/invoke/MethodHandle" ∧ y_Lo_isOne.cls ≠ "java/lang/invoke/VarHandle" ∧ (parseMethodDescriptor y_Lo_isOne.desc).map (fun d => d.parameters.length) = some 3 := by decide +kernel
theorem kd_CY_payment : y_CY_payment.cls ≠ "java/lang/invoke/MethodHandle" ∧ y_CY_payment.cls ≠ "java/lang/invoke/VarHandle" ∧ (parseMethodDescriptor y_CY_payment.desc).map (fun d => d.parameters.length) = some 3 := by decide +kernel
theorem kd_CY_rest : y_CY_rest.cls ≠ "java/lang/invoke/MethodHandle" ∧ y_CY_rest.cls ≠ "java/lang/invoke/VarHandle" ∧ (parseMethodDescriptor y_CY_rest.desc).map (fun d => d.parameters.length) = some 4 := by decide +kernel
theorem kd_Mo_init : y_Mo_init.cls ≠ "java/lang/invoke/MethodHandle" ∧ y_Mo_init.cls ≠ "java/lang/invoke/VarHandle" ∧ (parseMethodDescriptor y_Mo_init.desc).map (fun d => d.parameters.length) = some 1 := by decide +kernel
theorem kd_Mo_thrown : y_Mo_thrown.cls ≠ "java/lang/invoke/MethodHandle" ∧ y_Mo_thrown.cls ≠ "java/lang/invoke/VarHandle" ∧ (parseMethodDescriptor y_Mo_thrown.desc).map (fun d => d.parameters.length) = some 0 := by decide +kernel
theorem kd_Mo_refuses : y_Mo_refuses.cls ≠ "java/lang/invoke/MethodHandle" ∧ y_Mo_refuses.cls ≠ "java/lang/invoke/VarHandle" ∧ (parseMethodDescriptor y_Mo_refuses.desc).map (fun d => d.parameters.length) = some 1 := by decide +kernel
theorem kd_Mo_within : y_Mo_within.cls ≠ "java/lang/invoke/MethodHandle" ∧ y_Mo_within.cls ≠ "java/lang/invoke/VarHandle" ∧ (parseMethodDescriptor y_Mo_within.desc).map (fun d => d.parameters.length) = some 3 := by decide +kernel
theorem kd_Mo_isYear : y_Mo_isYear.cls ≠ "java/lang/invoke/MethodHandle" ∧ y_Mo_isYear.cls ≠ "java/lang/invoke/VarHandle" ∧ (parseMethodDescriptor y_Mo_isYear.desc).map (fun d => d.parameters.length) = some 1 := by decide +kernel
theorem kd_Mo_isPart : y_Mo_isPart.cls ≠ "java/lang/invoke/MethodHandle" ∧ y_Mo_isPart.cls ≠ "java/lang/invoke/VarHandle" ∧ (parseMethodDescriptor y_Mo_isPart.desc).map (fun d => d.parameters.length) = some 1 := by decide +kernel
theorem kd_Mo_isState : y_Mo_isState.cls ≠ "java/lang/invoke/MethodHandle" ∧ y_Mo_isState.cls ≠ "java/lang/invoke/VarHandle" ∧ (parseMethodDescriptor y_Mo_isState.desc).map (fun d => d.parameters.length) = some 2 := by decide +kernel
theorem kd_Mo_isWork : y_Mo_isWork.cls ≠ "java/lang/invoke/MethodHandle" ∧ y_Mo_isWork.cls ≠ "java/lang/invoke/VarHandle" ∧ (parseMethodDescriptor y_Mo_isWork.desc).map (fun d => d.parameters.length) = some 1 := by decide +kernel
theorem kd_Mo_index : y_Mo_index.cls ≠ "java/lang/invoke/MethodHandle" ∧ y_Mo_index.cls ≠ "java/lang/invoke/VarHandle" ∧ (parseMethodDescriptor y_Mo_index.desc).map (fun d => d.parameters.length) = some 2 := by decide +kernel
theorem kd_Mo_budget : y_Mo_budget.cls ≠ "java/lang/invoke/MethodHandle" ∧ y_Mo_budget.cls ≠ "java/lang/invoke/VarHandle" ∧ (parseMethodDescriptor y_Mo_budget.desc).map (fun d => d.parameters.length) = some 2 := by decide +kernel
theorem kd_Mo_part : y_Mo_part.cls ≠ "java/lang/invoke/MethodHandle" ∧ y_Mo_part.cls ≠ "java/lang/invoke/VarHandle" ∧ (parseMethodDescriptor y_Mo_part.desc).map (fun d => d.parameters.length) = some 2 := by decide +kernel
theorem kd_Mo_leaving : y_Mo_leaving.cls ≠ "java/lang/invoke/MethodHandle" ∧ y_Mo_leaving.cls ≠ "java/lang/invoke/VarHandle" ∧ (parseMethodDescriptor y_Mo_leaving.desc).map (fun d => d.parameters.length) = some 2 := by decide +kernel
theorem kd_Mo_moves : y_Mo_moves.cls ≠ "java/lang/invoke/MethodHandle" ∧ y_Mo_moves.cls ≠ "java/lang/invoke/VarHandle" ∧ (parseMethodDescriptor y_Mo_moves.desc).map (fun d => d.parameters.length) = some 4 := by decide +kernel
theorem kd_Mo_care : y_Mo_care.cls ≠ "java/lang/invoke/MethodHandle" ∧ y_Mo_care.cls ≠ "java/lang/invoke/VarHandle" ∧ (parseMethodDescriptor y_Mo_care.desc).map (fun d => d.parameters.length) = some 3 := by decide +kernel
theorem kd_Mo_begins : y_Mo_begins.cls ≠ "java/lang/invoke/MethodHandle" ∧ y_Mo_begins.cls ≠ "java/lang/invoke/VarHandle" ∧ (parseMethodDescriptor y_Mo_begins.desc).map (fun d => d.parameters.length) = some 2 := by decide +kernel
theorem kd_Mo_learn : y_Mo_learn.cls ≠ "java/lang/invoke/MethodHandle" ∧ y_Mo_learn.cls ≠ "java/lang/invoke/VarHandle" ∧ (parseMethodDescriptor y_Mo_learn.desc).map (fun d => d.parameters.length) = some 2 := by decide +kernel
theorem kd_Mo_share : y_Mo_share.cls ≠ "java/lang/invoke/MethodHandle" ∧ y_Mo_share.cls ≠ "java/lang/invoke/VarHandle" ∧ (parseMethodDescriptor y_Mo_share.desc).map (fun d => d.parameters.length) = some 3 := by decide +kernel
theorem kd_Mo_careOf : y_Mo_careOf.cls ≠ "java/lang/invoke/MethodHandle" ∧ y_Mo_careOf.cls ≠ "java/lang/invoke/VarHandle" ∧ (parseMethodDescriptor y_Mo_careOf.desc).map (fun d => d.parameters.length) = some 2 := by decide +kernel
theorem kd_Mo_cares : y_Mo_cares.cls ≠ "java/lang/invoke/MethodHandle" ∧ y_Mo_cares.cls ≠ "java/lang/invoke/VarHandle" ∧ (parseMethodDescriptor y_Mo_cares.desc).map (fun d => d.parameters.length) = some 2 := by decide +kernel
theorem kd_Mo_most : y_Mo_most.cls ≠ "java/lang/invoke/MethodHandle" ∧ y_Mo_most.cls ≠ "java/lang/invoke/VarHandle" ∧ (parseMethodDescriptor y_Mo_most.desc).map (fun d => d.parameters.length) = some 2 := by decide +kernel
theorem kd_Mo_work : y_Mo_work.cls ≠ "java/lang/invoke/MethodHandle" ∧ y_Mo_work.cls ≠ "java/lang/invoke/VarHandle" ∧ (parseMethodDescriptor y_Mo_work.desc).map (fun d => d.parameters.length) = some 4 := by decide +kernel
theorem kd_Mo_areTwo : y_Mo_areTwo.cls ≠ "java/lang/invoke/MethodHandle" ∧ y_Mo_areTwo.cls ≠ "java/lang/invoke/VarHandle" ∧ (parseMethodDescriptor y_Mo_areTwo.desc).map (fun d => d.parameters.length) = some 2 := by decide +kernel
theorem kd_Mo_join : y_Mo_join.cls ≠ "java/lang/invoke/MethodHandle" ∧ y_Mo_join.cls ≠ "java/lang/invoke/VarHandle" ∧ (parseMethodDescriptor y_Mo_join.desc).map (fun d => d.parameters.length) = some 3 := by decide +kernel
theorem kd_Mo_clash : y_Mo_clash.cls ≠ "java/lang/invoke/MethodHandle" ∧ y_Mo_clash.cls ≠ "java/lang/invoke/VarHandle" ∧ (parseMethodDescriptor y_Mo_clash.desc).map (fun d => d.parameters.length) = some 3 := by decide +kernel
theorem kd_Mo_needs : y_Mo_needs.cls ≠ "java/lang/invoke/MethodHandle" ∧ y_Mo_needs.cls ≠ "java/lang/invoke/VarHandle" ∧ (parseMethodDescriptor y_Mo_needs.desc).map (fun d => d.parameters.length) = some 2 := by decide +kernel
theorem kd_Mo_has : y_Mo_has.cls ≠ "java/lang/invoke/MethodHandle" ∧ y_Mo_has.cls ≠ "java/lang/invoke/VarHandle" ∧ (parseMethodDescriptor y_Mo_has.desc).map (fun d => d.parameters.length) = some 2 := by decide +kernel
theorem kd_Mo_goesTogether : y_Mo_goesTogether.cls ≠ "java/lang/invoke/MethodHandle" ∧ y_Mo_goesTogether.cls ≠ "java/lang/invoke/VarHandle" ∧ (parseMethodDescriptor y_Mo_goesTogether.desc).map (fun d => d.parameters.length) = some 1 := by decide +kernel
theorem kd_Mo_costOf : y_Mo_costOf.cls ≠ "java/lang/invoke/MethodHandle" ∧ y_Mo_costOf.cls ≠ "java/lang/invoke/VarHandle" ∧ (parseMethodDescriptor y_Mo_costOf.desc).map (fun d => d.parameters.length) = some 2 := by decide +kernel
theorem kd_Mo_lackOf : y_Mo_lackOf.cls ≠ "java/lang/invoke/MethodHandle" ∧ y_Mo_lackOf.cls ≠ "java/lang/invoke/VarHandle" ∧ (parseMethodDescriptor y_Mo_lackOf.desc).map (fun d => d.parameters.length) = some 1 := by decide +kernel
theorem kd_Mo_choose : y_Mo_choose.cls ≠ "java/lang/invoke/MethodHandle" ∧ y_Mo_choose.cls ≠ "java/lang/invoke/VarHandle" ∧ (parseMethodDescriptor y_Mo_choose.desc).map (fun d => d.parameters.length) = some 0 := by decide +kernel
theorem kd_Mo_chosen : y_Mo_chosen.cls ≠ "java/lang/invoke/MethodHandle" ∧ y_Mo_chosen.cls ≠ "java/lang/invoke/VarHandle" ∧ (parseMethodDescriptor y_Mo_chosen.desc).map (fun d => d.parameters.length) = some 1 := by decide +kernel
theorem kd_Mo_costs : y_Mo_costs.cls ≠ "java/lang/invoke/MethodHandle" ∧ y_Mo_costs.cls ≠ "java/lang/invoke/VarHandle" ∧ (parseMethodDescriptor y_Mo_costs.desc).map (fun d => d.parameters.length) = some 1 := by decide +kernel
theorem kd_Mo_lacks : y_Mo_lacks.cls ≠ "java/lang/invoke/MethodHandle" ∧ y_Mo_lacks.cls ≠ "java/lang/invoke/VarHandle" ∧ (parseMethodDescriptor y_Mo_lacks.desc).map (fun d => d.parameters.length) = some 1 := by decide +kernel
theorem kd_Mo_money : y_Mo_money.cls ≠ "java/lang/invoke/MethodHandle" ∧ y_Mo_money.cls ≠ "java/lang/invoke/VarHandle" ∧ (parseMethodDescriptor y_Mo_money.desc).map (fun d => d.parameters.length) = some 2 := by decide +kernel
theorem kd_Mo_reserveOf : y_Mo_reserveOf.cls ≠ "java/lang/invoke/MethodHandle" ∧ y_Mo_reserveOf.cls ≠ "java/lang/invoke/VarHandle" ∧ (parseMethodDescriptor y_Mo_reserveOf.desc).map (fun d => d.parameters.length) = some 1 := by decide +kernel
theorem kd_Mo_reserve : y_Mo_reserve.cls ≠ "java/lang/invoke/MethodHandle" ∧ y_Mo_reserve.cls ≠ "java/lang/invoke/VarHandle" ∧ (parseMethodDescriptor y_Mo_reserve.desc).map (fun d => d.parameters.length) = some 1 := by decide +kernel
theorem kd_Mo_shortIn : y_Mo_shortIn.cls ≠ "java/lang/invoke/MethodHandle" ∧ y_Mo_shortIn.cls ≠ "java/lang/invoke/VarHandle" ∧ (parseMethodDescriptor y_Mo_shortIn.desc).map (fun d => d.parameters.length) = some 0 := by decide +kernel
theorem kd_Mo_restOf : y_Mo_restOf.cls ≠ "java/lang/invoke/MethodHandle" ∧ y_Mo_restOf.cls ≠ "java/lang/invoke/VarHandle" ∧ (parseMethodDescriptor y_Mo_restOf.desc).map (fun d => d.parameters.length) = some 4 := by decide +kernel
theorem kd_Mo_paymentOf : y_Mo_paymentOf.cls ≠ "java/lang/invoke/MethodHandle" ∧ y_Mo_paymentOf.cls ≠ "java/lang/invoke/VarHandle" ∧ (parseMethodDescriptor y_Mo_paymentOf.desc).map (fun d => d.parameters.length) = some 3 := by decide +kernel
theorem kd_Mo_isLoan : y_Mo_isLoan.cls ≠ "java/lang/invoke/MethodHandle" ∧ y_Mo_isLoan.cls ≠ "java/lang/invoke/VarHandle" ∧ (parseMethodDescriptor y_Mo_isLoan.desc).map (fun d => d.parameters.length) = some 3 := by decide +kernel
theorem kd_Mo_payment : y_Mo_payment.cls ≠ "java/lang/invoke/MethodHandle" ∧ y_Mo_payment.cls ≠ "java/lang/invoke/VarHandle" ∧ (parseMethodDescriptor y_Mo_payment.desc).map (fun d => d.parameters.length) = some 3 := by decide +kernel
theorem kd_Mo_rest : y_Mo_rest.cls ≠ "java/lang/invoke/MethodHandle" ∧ y_Mo_rest.cls ≠ "java/lang/invoke/VarHandle" ∧ (parseMethodDescriptor y_Mo_rest.desc).map (fun d => d.parameters.length) = some 4 := by decide +kernel
theorem kd_La_cell : y_La_cell.cls ≠ "java/lang/invoke/MethodHandle" ∧ y_La_cell.cls ≠ "java/lang/invoke/VarHandle" ∧ (parseMethodDescriptor y_La_cell.desc).map (fun d => d.parameters.length) = some 2 := by decide +kernel
theorem kd_La_index : y_La_index.cls ≠ "java/lang/invoke/MethodHandle" ∧ y_La_index.cls ≠ "java/lang/invoke/VarHandle" ∧ (parseMethodDescriptor y_La_index.desc).map (fun d => d.parameters.length) = some 4 := by decide +kernel
theorem kd_La_budget : y_La_budget.cls ≠ "java/lang/invoke/MethodHandle" ∧ y_La_budget.cls ≠ "java/lang/invoke/VarHandle" ∧ (parseMethodDescriptor y_La_budget.desc).map (fun d => d.parameters.length) = some 4 := by decide +kernel
theorem kd_La_part : y_La_part.cls ≠ "java/lang/invoke/MethodHandle" ∧ y_La_part.cls ≠ "java/lang/invoke/VarHandle" ∧ (parseMethodDescriptor y_La_part.desc).map (fun d => d.parameters.length) = some 4 := by decide +kernel
theorem kd_La_moves : y_La_moves.cls ≠ "java/lang/invoke/MethodHandle" ∧ y_La_moves.cls ≠ "java/lang/invoke/VarHandle" ∧ (parseMethodDescriptor y_La_moves.desc).map (fun d => d.parameters.length) = some 6 := by decide +kernel
theorem kd_La_care : y_La_care.cls ≠ "java/lang/invoke/MethodHandle" ∧ y_La_care.cls ≠ "java/lang/invoke/VarHandle" ∧ (parseMethodDescriptor y_La_care.desc).map (fun d => d.parameters.length) = some 5 := by decide +kernel
theorem kd_La_share : y_La_share.cls ≠ "java/lang/invoke/MethodHandle" ∧ y_La_share.cls ≠ "java/lang/invoke/VarHandle" ∧ (parseMethodDescriptor y_La_share.desc).map (fun d => d.parameters.length) = some 5 := by decide +kernel
theorem kd_La_cares : y_La_cares.cls ≠ "java/lang/invoke/MethodHandle" ∧ y_La_cares.cls ≠ "java/lang/invoke/VarHandle" ∧ (parseMethodDescriptor y_La_cares.desc).map (fun d => d.parameters.length) = some 4 := by decide +kernel
theorem kd_La_most : y_La_most.cls ≠ "java/lang/invoke/MethodHandle" ∧ y_La_most.cls ≠ "java/lang/invoke/VarHandle" ∧ (parseMethodDescriptor y_La_most.desc).map (fun d => d.parameters.length) = some 4 := by decide +kernel
theorem kd_La_work : y_La_work.cls ≠ "java/lang/invoke/MethodHandle" ∧ y_La_work.cls ≠ "java/lang/invoke/VarHandle" ∧ (parseMethodDescriptor y_La_work.desc).map (fun d => d.parameters.length) = some 6 := by decide +kernel
theorem kd_La_join : y_La_join.cls ≠ "java/lang/invoke/MethodHandle" ∧ y_La_join.cls ≠ "java/lang/invoke/VarHandle" ∧ (parseMethodDescriptor y_La_join.desc).map (fun d => d.parameters.length) = some 5 := by decide +kernel
theorem kd_La_clash : y_La_clash.cls ≠ "java/lang/invoke/MethodHandle" ∧ y_La_clash.cls ≠ "java/lang/invoke/VarHandle" ∧ (parseMethodDescriptor y_La_clash.desc).map (fun d => d.parameters.length) = some 5 := by decide +kernel
theorem kd_La_needs : y_La_needs.cls ≠ "java/lang/invoke/MethodHandle" ∧ y_La_needs.cls ≠ "java/lang/invoke/VarHandle" ∧ (parseMethodDescriptor y_La_needs.desc).map (fun d => d.parameters.length) = some 4 := by decide +kernel
theorem kd_La_chosen : y_La_chosen.cls ≠ "java/lang/invoke/MethodHandle" ∧ y_La_chosen.cls ≠ "java/lang/invoke/VarHandle" ∧ (parseMethodDescriptor y_La_chosen.desc).map (fun d => d.parameters.length) = some 3 := by decide +kernel
theorem kd_La_costs : y_La_costs.cls ≠ "java/lang/invoke/MethodHandle" ∧ y_La_costs.cls ≠ "java/lang/invoke/VarHandle" ∧ (parseMethodDescriptor y_La_costs.desc).map (fun d => d.parameters.length) = some 3 := by decide +kernel
theorem kd_La_money : y_La_money.cls ≠ "java/lang/invoke/MethodHandle" ∧ y_La_money.cls ≠ "java/lang/invoke/VarHandle" ∧ (parseMethodDescriptor y_La_money.desc).map (fun d => d.parameters.length) = some 3 := by decide +kernel
theorem kd_La_reserve : y_La_reserve.cls ≠ "java/lang/invoke/MethodHandle" ∧ y_La_reserve.cls ≠ "java/lang/invoke/VarHandle" ∧ (parseMethodDescriptor y_La_reserve.desc).map (fun d => d.parameters.length) = some 3 := by decide +kernel
theorem kd_La_payment : y_La_payment.cls ≠ "java/lang/invoke/MethodHandle" ∧ y_La_payment.cls ≠ "java/lang/invoke/VarHandle" ∧ (parseMethodDescriptor y_La_payment.desc).map (fun d => d.parameters.length) = some 5 := by decide +kernel
theorem kd_La_rest : y_La_rest.cls ≠ "java/lang/invoke/MethodHandle" ∧ y_La_rest.cls ≠ "java/lang/invoke/VarHandle" ∧ (parseMethodDescriptor y_La_rest.desc).map (fun d => d.parameters.length) = some 6 := by decide +kernel
section ST
variable {p : Program} {l : Launch} {e : Env} {R : Room} {s : State} {m : MethodId} {args : Array Value} {below : List Frame} {meth : Method} {c : Code} {V : gV} {A : Nat → Prop} {H0 : Heap} {nL : Nat} {Q : State → Prop} {cells slots : Nat} {om : Heap → List Loc → Prop} {ws : va_W} {lv : List (Nat × Value)} {pc : Nat} {rest : List Value} {cc : ByteArray} {own : String}
theorem gf_CY_21 (E : gE p s m args c cc nL R_CY V) (hO : gO om V ws) (q0 : Nat) {a : Nat} {fs : List Value} (he : ws[q0]? = some (a, .inr (0, fs))) {v : Value} (hv : fs[0]? = some v) (hd : decode cc pc = .ok (.getfield 21, 3)) (k : gg p l e R s m args below meth c nL Q cells slots om lv (pc + 3) (v :: rest)) : gg p l e R s m args below meth c nL Q cells slots om lv pc (.ref a :: rest) := g_get E in_CY hO q0 he rfl 0 (by decide) kf_CY_21 rfl hv hd k
theorem gf_CY_30 (E : gE p s m args c cc nL R_CY V) (hO : gO om V ws) (q0 : Nat) {a : Nat} {fs : List Value} (he : ws[q0]? = some (a, .inr (0, fs))) {v : Value} (hv : fs[1]? = some v) (hd : decode cc pc = .ok (.getfield 30, 3)) (k : gg p l e R s m args below meth c nL Q cells slots om lv (pc + 3) (v :: rest)) : gg p l e R s m args below meth c nL Q cells slots om lv pc (.ref a :: rest) := g_get E in_CY hO q0 he rfl 1 (by decide) kf_CY_30 rfl hv hd k
theorem gf_CY_39 (E : gE p s m args c cc nL R_CY V) (hO : gO om V ws) (q0 : Nat) {a : Nat} {fs : List Value} (he : ws[q0]? = some (a, .inr (0, fs))) {v : Value} (hv : fs[2]? = some v) (hd : decode cc pc = .ok (.getfield 39, 3)) (k : gg p l e R s m args below meth c nL Q cells slots om lv (pc + 3) (v :: rest)) : gg p l e R s m args below meth c nL Q cells slots om lv pc (.ref a :: rest) := g_get E in_CY hO q0 he rfl 2 (by decide) kf_CY_39 rfl hv hd k
theorem gf_CY_43 (E : gE p s m args c cc nL R_CY V) (hO : gO om V ws) (q0 : Nat) {a : Nat} {fs : List Value} (he : ws[q0]? = some (a, .inr (0, fs))) {v : Value} (hv : fs[3]? = some v) (hd : decode cc pc = .ok (.getfield 43, 3)) (k : gg p l e R s m args below meth c nL Q cells slots om lv (pc + 3) (v :: rest)) : gg p l e R s m args below meth c nL Q cells slots om lv pc (.ref a :: rest) := g_get E in_CY hO q0 he rfl 3 (by decide) kf_CY_43 rfl hv hd k
theorem gf_CY_59 (E : gE p s m args c cc nL R_CY V) (hO : gO om V ws) (q0 : Nat) {a : Nat} {fs : List Value} (he : ws[q0]? = some (a, .inr (1, fs))) {v : Value} (hv : fs[1]? = some v) (hd : decode cc pc = .ok (.getfield 59, 3)) (k : gg p l e R s m args below meth c nL Q cells slots om lv (pc + 3) (v :: rest)) : gg p l e R s m args below meth c nL Q cells slots om lv pc (.ref a :: rest) := g_get E in_Ye hO q0 he rfl 1 (by decide) kf_CY_59 rfl hv hd k
theorem gf_CY_64 (E : gE p s m args c cc nL R_CY V) (hO : gO om V ws) (q0 : Nat) {a : Nat} {fs : List Value} (he : ws[q0]? = some (a, .inr (1, fs))) {v : Value} (hv : fs[2]? = some v) (hd : decode cc pc = .ok (.getfield 64, 3)) (k : gg p l e R s m args below meth c nL Q cells slots om lv (pc + 3) (v :: rest)) : gg p l e R s m args below meth c nL Q cells slots om lv pc (.ref a :: rest) := g_get E in_Ye hO q0 he rfl 2 (by decide) kf_CY_64 rfl hv hd k
theorem gf_CY_67 (E : gE p s m args c cc nL R_CY V) (hO : gO om V ws) (q0 : Nat) {a : Nat} {fs : List Value} (he : ws[q0]? = some (a, .inr (2, fs))) {v : Value} (hv : fs[0]? = some v) (hd : decode cc pc = .ok (.getfield 67, 3)) (k : gg p l e R s m args below meth c nL Q cells slots om lv (pc + 3) (v :: rest)) : gg p l e R s m args below meth c nL Q cells slots om lv pc (.ref a :: rest) := g_get E in_Pa hO q0 he rfl 0 (by decide) kf_CY_67 rfl hv hd k
theorem pf_CY_67 (E : gE p s m args c cc nL R_CY V) (q0 : Nat) {a : Nat} {fs : List Value} (he : ws[q0]? = some (a, .inr (2, fs))) {v : Value} (hn : narrow .int v = v) (hfit : fits .int v = true) (hl0 : 0 < fs.length) {ws' : va_W} (hw : ws.set q0 (a, .inr (2, fs.set 0 v)) = ws') (hd : decode cc pc = .ok (.putfield 67, 3)) (k : gg p l e R s m args below meth c nL Q cells slots (gW V A H0 ws') lv (pc + 3) rest) : gg p l e R s m args below meth c nL Q cells slots (gW V A H0 ws) lv pc (v :: .ref a :: rest) := g_put E in_Pa ty_Pa tyok_Pa nm_Pa q0 he rfl 0 (by decide) kf_CY_67 rfl rfl (ty := .int) (by decide +kernel) hn hfit hl0 hw hd k
theorem gf_CY_89 (E : gE p s m args c cc nL R_CY V) (hO : gO om V ws) (q0 : Nat) {a : Nat} {fs : List Value} (he : ws[q0]? = some (a, .inr (2, fs))) {v : Value} (hv : fs[4]? = some v) (hd : decode cc pc = .ok (.getfield 89, 3)) (k : gg p l e R s m args below meth c nL Q cells slots om lv (pc + 3) (v :: rest)) : gg p l e R s m args below meth c nL Q cells slots om lv pc (.ref a :: rest) := g_get E in_Pa hO q0 he rfl 4 (by decide) kf_CY_89 rfl hv hd k
theorem gf_CY_97 (E : gE p s m args c cc nL R_CY V) (hO : gO om V ws) (q0 : Nat) {a : Nat} {fs : List Value} (he : ws[q0]? = some (a, .inr (2, fs))) {v : Value} (hv : fs[6]? = some v) (hd : decode cc pc = .ok (.getfield 97, 3)) (k : gg p l e R s m args below meth c nL Q cells slots om lv (pc + 3) (v :: rest)) : gg p l e R s m args below meth c nL Q cells slots om lv pc (.ref a :: rest) := g_get E in_Pa hO q0 he rfl 6 (by decide) kf_CY_97 rfl hv hd k
theorem gf_CY_112 (E : gE p s m args c cc nL R_CY V) (hO : gO om V ws) (q0 : Nat) {a : Nat} {fs : List Value} (he : ws[q0]? = some (a, .inr (3, fs))) {v : Value} (hv : fs[1]? = some v) (hd : decode cc pc = .ok (.getfield 112, 3)) (k : gg p l e R s m args below meth c nL Q cells slots om lv (pc + 3) (v :: rest)) : gg p l e R s m args below meth c nL Q cells slots om lv pc (.ref a :: rest) := g_get E in_Wo hO q0 he rfl 1 (by decide) kf_CY_112 rfl hv hd k
theorem pf_CY_112 (E : gE p s m args c cc nL R_CY V) (q0 : Nat) {a : Nat} {fs : List Value} (he : ws[q0]? = some (a, .inr (3, fs))) {v : Value} (hn : narrow .int v = v) (hfit : fits .int v = true) (hl0 : 1 < fs.length) {ws' : va_W} (hw : ws.set q0 (a, .inr (3, fs.set 1 v)) = ws') (hd : decode cc pc = .ok (.putfield 112, 3)) (k : gg p l e R s m args below meth c nL Q cells slots (gW V A H0 ws') lv (pc + 3) rest) : gg p l e R s m args below meth c nL Q cells slots (gW V A H0 ws) lv pc (v :: .ref a :: rest) := g_put E in_Wo ty_Wo tyok_Wo nm_Wo q0 he rfl 1 (by decide) kf_CY_112 rfl rfl (ty := .int) (by decide +kernel) hn hfit hl0 hw hd k
theorem gf_CY_117 (E : gE p s m args c cc nL R_CY V) (hO : gO om V ws) (q0 : Nat) {a : Nat} {fs : List Value} (he : ws[q0]? = some (a, .inr (3, fs))) {v : Value} (hv : fs[8]? = some v) (hd : decode cc pc = .ok (.getfield 117, 3)) (k : gg p l e R s m args below meth c nL Q cells slots om lv (pc + 3) (v :: rest)) : gg p l e R s m args below meth c nL Q cells slots om lv pc (.ref a :: rest) := g_get E in_Wo hO q0 he rfl 8 (by decide) kf_CY_117 rfl hv hd k
theorem gf_CY_120 (E : gE p s m args c cc nL R_CY V) (hO : gO om V ws) (q0 : Nat) {a : Nat} {fs : List Value} (he : ws[q0]? = some (a, .inr (3, fs))) {v : Value} (hv : fs[7]? = some v) (hd : decode cc pc = .ok (.getfield 120, 3)) (k : gg p l e R s m args below meth c nL Q cells slots om lv (pc + 3) (v :: rest)) : gg p l e R s m args below meth c nL Q cells slots om lv pc (.ref a :: rest) := g_get E in_Wo hO q0 he rfl 7 (by decide) kf_CY_120 rfl hv hd k
theorem gf_CY_130 (E : gE p s m args c cc nL R_CY V) (hO : gO om V ws) (q0 : Nat) {a : Nat} {fs : List Value} (he : ws[q0]? = some (a, .inr (3, fs))) {v : Value} (hv : fs[6]? = some v) (hd : decode cc pc = .ok (.getfield 130, 3)) (k : gg p l e R s m args below meth c nL Q cells slots om lv (pc + 3) (v :: rest)) : gg p l e R s m args below meth c nL Q cells slots om lv pc (.ref a :: rest) := g_get E in_Wo hO q0 he rfl 6 (by decide) kf_CY_130 rfl hv hd k
theorem gf_CY_139 (E : gE p s m args c cc nL R_CY V) (hO : gO om V ws) (q0 : Nat) {a : Nat} {fs : List Value} (he : ws[q0]? = some (a, .inr (3, fs))) {v : Value} (hv : fs[9]? = some v) (hd : decode cc pc = .ok (.getfield 139, 3)) (k : gg p l e R s m args below meth c nL Q cells slots om lv (pc + 3) (v :: rest)) : gg p l e R s m args below meth c nL Q cells slots om lv pc (.ref a :: rest) := g_get E in_Wo hO q0 he rfl 9 (by decide) kf_CY_139 rfl hv hd k
theorem pf_CY_139 (E : gE p s m args c cc nL R_CY V) (q0 : Nat) {a : Nat} {fs : List Value} (he : ws[q0]? = some (a, .inr (3, fs))) {v : Value} (hn : narrow .int v = v) (hfit : fits .int v = true) (hl0 : 9 < fs.length) {ws' : va_W} (hw : ws.set q0 (a, .inr (3, fs.set 9 v)) = ws') (hd : decode cc pc = .ok (.putfield 139, 3)) (k : gg p l e R s m args below meth c nL Q cells slots (gW V A H0 ws') lv (pc + 3) rest) : gg p l e R s m args below meth c nL Q cells slots (gW V A H0 ws) lv pc (v :: .ref a :: rest) := g_put E in_Wo ty_Wo tyok_Wo nm_Wo q0 he rfl 9 (by decide) kf_CY_139 rfl rfl (ty := .int) (by decide +kernel) hn hfit hl0 hw hd k
theorem gf_CY_148 (E : gE p s m args c cc nL R_CY V) (hO : gO om V ws) (q0 : Nat) {a : Nat} {fs : List Value} (he : ws[q0]? = some (a, .inr (3, fs))) {v : Value} (hv : fs[10]? = some v) (hd : decode cc pc = .ok (.getfield 148, 3)) (k : gg p l e R s m args below meth c nL Q cells slots om lv (pc + 3) (v :: rest)) : gg p l e R s m args below meth c nL Q cells slots om lv pc (.ref a :: rest) := g_get E in_Wo hO q0 he rfl 10 (by decide) kf_CY_148 rfl hv hd k
theorem gf_CY_161 (E : gE p s m args c cc nL R_CY V) (hO : gO om V ws) (q0 : Nat) {a : Nat} {fs : List Value} (he : ws[q0]? = some (a, .inr (0, fs))) {v : Value} (hv : fs[4]? = some v) (hd : decode cc pc = .ok (.getfield 161, 3)) (k : gg p l e R s m args below meth c nL Q cells slots om lv (pc + 3) (v :: rest)) : gg p l e R s m args below meth c nL Q cells slots om lv pc (.ref a :: rest) := g_get E in_CY hO q0 he rfl 4 (by decide) kf_CY_161 rfl hv hd k
theorem pf_CY_161 (E : gE p s m args c cc nL R_CY V) (q0 : Nat) {a : Nat} {fs : List Value} (he : ws[q0]? = some (a, .inr (0, fs))) {v : Value} (hn : narrow .int v = v) (hfit : fits .int v = true) (hl0 : 4 < fs.length) {ws' : va_W} (hw : ws.set q0 (a, .inr (0, fs.set 4 v)) = ws') (hd : decode cc pc = .ok (.putfield 161, 3)) (k : gg p l e R s m args below meth c nL Q cells slots (gW V A H0 ws') lv (pc + 3) rest) : gg p l e R s m args below meth c nL Q cells slots (gW V A H0 ws) lv pc (v :: .ref a :: rest) := g_put E in_CY ty_CY tyok_CY nm_CY q0 he rfl 4 (by decide) kf_CY_161 rfl rfl (ty := .int) (by decide +kernel) hn hfit hl0 hw hd k
theorem gf_CY_164 (E : gE p s m args c cc nL R_CY V) (hO : gO om V ws) (q0 : Nat) {a : Nat} {fs : List Value} (he : ws[q0]? = some (a, .inr (0, fs))) {v : Value} (hv : fs[5]? = some v) (hd : decode cc pc = .ok (.getfield 164, 3)) (k : gg p l e R s m args below meth c nL Q cells slots om lv (pc + 3) (v :: rest)) : gg p l e R s m args below meth c nL Q cells slots om lv pc (.ref a :: rest) := g_get E in_CY hO q0 he rfl 5 (by decide) kf_CY_164 rfl hv hd k
theorem pf_CY_164 (E : gE p s m args c cc nL R_CY V) (q0 : Nat) {a : Nat} {fs : List Value} (he : ws[q0]? = some (a, .inr (0, fs))) {v : Value} (hn : narrow .int v = v) (hfit : fits .int v = true) (hl0 : 5 < fs.length) {ws' : va_W} (hw : ws.set q0 (a, .inr (0, fs.set 5 v)) = ws') (hd : decode cc pc = .ok (.putfield 164, 3)) (k : gg p l e R s m args below meth c nL Q cells slots (gW V A H0 ws') lv (pc + 3) rest) : gg p l e R s m args below meth c nL Q cells slots (gW V A H0 ws) lv pc (v :: .ref a :: rest) := g_put E in_CY ty_CY tyok_CY nm_CY q0 he rfl 5 (by decide) kf_CY_164 rfl rfl (ty := .int) (by decide +kernel) hn hfit hl0 hw hd k
theorem gf_CY_170 (E : gE p s m args c cc nL R_CY V) (hO : gO om V ws) (q0 : Nat) {a : Nat} {fs : List Value} (he : ws[q0]? = some (a, .inr (1, fs))) {v : Value} (hv : fs[0]? = some v) (hd : decode cc pc = .ok (.getfield 170, 3)) (k : gg p l e R s m args below meth c nL Q cells slots om lv (pc + 3) (v :: rest)) : gg p l e R s m args below meth c nL Q cells slots om lv pc (.ref a :: rest) := g_get E in_Ye hO q0 he rfl 0 (by decide) kf_CY_170 rfl hv hd k
theorem gf_CY_195 (E : gE p s m args c cc nL R_CY V) (hO : gO om V ws) (q0 : Nat) {a : Nat} {fs : List Value} (he : ws[q0]? = some (a, .inr (2, fs))) {v : Value} (hv : fs[5]? = some v) (hd : decode cc pc = .ok (.getfield 195, 3)) (k : gg p l e R s m args below meth c nL Q cells slots om lv (pc + 3) (v :: rest)) : gg p l e R s m args below meth c nL Q cells slots om lv pc (.ref a :: rest) := g_get E in_Pa hO q0 he rfl 5 (by decide) kf_CY_195 rfl hv hd k
theorem gf_CY_204 (E : gE p s m args c cc nL R_CY V) (hO : gO om V ws) (q0 : Nat) {a : Nat} {fs : List Value} (he : ws[q0]? = some (a, .inr (3, fs))) {v : Value} (hv : fs[5]? = some v) (hd : decode cc pc = .ok (.getfield 204, 3)) (k : gg p l e R s m args below meth c nL Q cells slots om lv (pc + 3) (v :: rest)) : gg p l e R s m args below meth c nL Q cells slots om lv pc (.ref a :: rest) := g_get E in_Wo hO q0 he rfl 5 (by decide) kf_CY_204 rfl hv hd k
theorem gf_CY_207 (E : gE p s m args c cc nL R_CY V) (hO : gO om V ws) (q0 : Nat) {a : Nat} {fs : List Value} (he : ws[q0]? = some (a, .inr (3, fs))) {v : Value} (hv : fs[2]? = some v) (hd : decode cc pc = .ok (.getfield 207, 3)) (k : gg p l e R s m args below meth c nL Q cells slots om lv (pc + 3) (v :: rest)) : gg p l e R s m args below meth c nL Q cells slots om lv pc (.ref a :: rest) := g_get E in_Wo hO q0 he rfl 2 (by decide) kf_CY_207 rfl hv hd k
theorem gf_Mo_7 (E : gE p s m args c cc nL R_Mo V) (hO : gO om V ws) (q0 : Nat) {a : Nat} {fs : List Value} (he : ws[q0]? = some (a, .inr (4, fs))) {v : Value} (hv : fs[2]? = some v) (hd : decode cc pc = .ok (.getfield 7, 3)) (k : gg p l e R s m args below meth c nL Q cells slots om lv (pc + 3) (v :: rest)) : gg p l e R s m args below meth c nL Q cells slots om lv pc (.ref a :: rest) := g_get E in_Mo hO q0 he rfl 2 (by decide) kf_Mo_7 rfl hv hd k
theorem gf_Mo_13 (E : gE p s m args c cc nL R_Mo V) (hO : gO om V ws) (q0 : Nat) {a : Nat} {fs : List Value} (he : ws[q0]? = some (a, .inr (4, fs))) {v : Value} (hv : fs[3]? = some v) (hd : decode cc pc = .ok (.getfield 13, 3)) (k : gg p l e R s m args below meth c nL Q cells slots om lv (pc + 3) (v :: rest)) : gg p l e R s m args below meth c nL Q cells slots om lv pc (.ref a :: rest) := g_get E in_Mo hO q0 he rfl 3 (by decide) kf_Mo_13 rfl hv hd k
theorem gf_Mo_16 (E : gE p s m args c cc nL R_Mo V) (hO : gO om V ws) (q0 : Nat) {a : Nat} {fs : List Value} (he : ws[q0]? = some (a, .inr (4, fs))) {v : Value} (hv : fs[5]? = some v) (hd : decode cc pc = .ok (.getfield 16, 3)) (k : gg p l e R s m args below meth c nL Q cells slots om lv (pc + 3) (v :: rest)) : gg p l e R s m args below meth c nL Q cells slots om lv pc (.ref a :: rest) := g_get E in_Mo hO q0 he rfl 5 (by decide) kf_Mo_16 rfl hv hd k
theorem gf_Mo_19 (E : gE p s m args c cc nL R_Mo V) (hO : gO om V ws) (q0 : Nat) {a : Nat} {fs : List Value} (he : ws[q0]? = some (a, .inr (4, fs))) {v : Value} (hv : fs[6]? = some v) (hd : decode cc pc = .ok (.getfield 19, 3)) (k : gg p l e R s m args below meth c nL Q cells slots om lv (pc + 3) (v :: rest)) : gg p l e R s m args below meth c nL Q cells slots om lv pc (.ref a :: rest) := g_get E in_Mo hO q0 he rfl 6 (by decide) kf_Mo_19 rfl hv hd k
theorem gf_Mo_22 (E : gE p s m args c cc nL R_Mo V) (hO : gO om V ws) (q0 : Nat) {a : Nat} {fs : List Value} (he : ws[q0]? = some (a, .inr (4, fs))) {v : Value} (hv : fs[7]? = some v) (hd : decode cc pc = .ok (.getfield 22, 3)) (k : gg p l e R s m args below meth c nL Q cells slots om lv (pc + 3) (v :: rest)) : gg p l e R s m args below meth c nL Q cells slots om lv pc (.ref a :: rest) := g_get E in_Mo hO q0 he rfl 7 (by decide) kf_Mo_22 rfl hv hd k
theorem gf_Mo_25 (E : gE p s m args c cc nL R_Mo V) (hO : gO om V ws) (q0 : Nat) {a : Nat} {fs : List Value} (he : ws[q0]? = some (a, .inr (4, fs))) {v : Value} (hv : fs[8]? = some v) (hd : decode cc pc = .ok (.getfield 25, 3)) (k : gg p l e R s m args below meth c nL Q cells slots om lv (pc + 3) (v :: rest)) : gg p l e R s m args below meth c nL Q cells slots om lv pc (.ref a :: rest) := g_get E in_Mo hO q0 he rfl 8 (by decide) kf_Mo_25 rfl hv hd k
theorem gf_Mo_28 (E : gE p s m args c cc nL R_Mo V) (hO : gO om V ws) (q0 : Nat) {a : Nat} {fs : List Value} (he : ws[q0]? = some (a, .inr (4, fs))) {v : Value} (hv : fs[10]? = some v) (hd : decode cc pc = .ok (.getfield 28, 3)) (k : gg p l e R s m args below meth c nL Q cells slots om lv (pc + 3) (v :: rest)) : gg p l e R s m args below meth c nL Q cells slots om lv pc (.ref a :: rest) := g_get E in_Mo hO q0 he rfl 10 (by decide) kf_Mo_28 rfl hv hd k
theorem gf_Mo_31 (E : gE p s m args c cc nL R_Mo V) (hO : gO om V ws) (q0 : Nat) {a : Nat} {fs : List Value} (he : ws[q0]? = some (a, .inr (4, fs))) {v : Value} (hv : fs[11]? = some v) (hd : decode cc pc = .ok (.getfield 31, 3)) (k : gg p l e R s m args below meth c nL Q cells slots om lv (pc + 3) (v :: rest)) : gg p l e R s m args below meth c nL Q cells slots om lv pc (.ref a :: rest) := g_get E in_Mo hO q0 he rfl 11 (by decide) kf_Mo_31 rfl hv hd k
theorem gf_Mo_34 (E : gE p s m args c cc nL R_Mo V) (hO : gO om V ws) (q0 : Nat) {a : Nat} {fs : List Value} (he : ws[q0]? = some (a, .inr (4, fs))) {v : Value} (hv : fs[12]? = some v) (hd : decode cc pc = .ok (.getfield 34, 3)) (k : gg p l e R s m args below meth c nL Q cells slots om lv (pc + 3) (v :: rest)) : gg p l e R s m args below meth c nL Q cells slots om lv pc (.ref a :: rest) := g_get E in_Mo hO q0 he rfl 12 (by decide) kf_Mo_34 rfl hv hd k
theorem gf_Mo_37 (E : gE p s m args c cc nL R_Mo V) (hO : gO om V ws) (q0 : Nat) {a : Nat} {fs : List Value} (he : ws[q0]? = some (a, .inr (4, fs))) {v : Value} (hv : fs[13]? = some v) (hd : decode cc pc = .ok (.getfield 37, 3)) (k : gg p l e R s m args below meth c nL Q cells slots om lv (pc + 3) (v :: rest)) : gg p l e R s m args below meth c nL Q cells slots om lv pc (.ref a :: rest) := g_get E in_Mo hO q0 he rfl 13 (by decide) kf_Mo_37 rfl hv hd k
theorem gf_Mo_40 (E : gE p s m args c cc nL R_Mo V) (hO : gO om V ws) (q0 : Nat) {a : Nat} {fs : List Value} (he : ws[q0]? = some (a, .inr (4, fs))) {v : Value} (hv : fs[14]? = some v) (hd : decode cc pc = .ok (.getfield 40, 3)) (k : gg p l e R s m args below meth c nL Q cells slots om lv (pc + 3) (v :: rest)) : gg p l e R s m args below meth c nL Q cells slots om lv pc (.ref a :: rest) := g_get E in_Mo hO q0 he rfl 14 (by decide) kf_Mo_40 rfl hv hd k
theorem gf_Mo_43 (E : gE p s m args c cc nL R_Mo V) (hO : gO om V ws) (q0 : Nat) {a : Nat} {fs : List Value} (he : ws[q0]? = some (a, .inr (4, fs))) {v : Value} (hv : fs[15]? = some v) (hd : decode cc pc = .ok (.getfield 43, 3)) (k : gg p l e R s m args below meth c nL Q cells slots om lv (pc + 3) (v :: rest)) : gg p l e R s m args below meth c nL Q cells slots om lv pc (.ref a :: rest) := g_get E in_Mo hO q0 he rfl 15 (by decide) kf_Mo_43 rfl hv hd k
theorem gf_Mo_46 (E : gE p s m args c cc nL R_Mo V) (hO : gO om V ws) (q0 : Nat) {a : Nat} {fs : List Value} (he : ws[q0]? = some (a, .inr (4, fs))) {v : Value} (hv : fs[16]? = some v) (hd : decode cc pc = .ok (.getfield 46, 3)) (k : gg p l e R s m args below meth c nL Q cells slots om lv (pc + 3) (v :: rest)) : gg p l e R s m args below meth c nL Q cells slots om lv pc (.ref a :: rest) := g_get E in_Mo hO q0 he rfl 16 (by decide) kf_Mo_46 rfl hv hd k
theorem gf_Mo_50 (E : gE p s m args c cc nL R_Mo V) (hO : gO om V ws) (q0 : Nat) {a : Nat} {fs : List Value} (he : ws[q0]? = some (a, .inr (4, fs))) {v : Value} (hv : fs[20]? = some v) (hd : decode cc pc = .ok (.getfield 50, 3)) (k : gg p l e R s m args below meth c nL Q cells slots om lv (pc + 3) (v :: rest)) : gg p l e R s m args below meth c nL Q cells slots om lv pc (.ref a :: rest) := g_get E in_Mo hO q0 he rfl 20 (by decide) kf_Mo_50 rfl hv hd k
theorem gf_Mo_54 (E : gE p s m args c cc nL R_Mo V) (hO : gO om V ws) (q0 : Nat) {a : Nat} {fs : List Value} (he : ws[q0]? = some (a, .inr (4, fs))) {v : Value} (hv : fs[21]? = some v) (hd : decode cc pc = .ok (.getfield 54, 3)) (k : gg p l e R s m args below meth c nL Q cells slots om lv (pc + 3) (v :: rest)) : gg p l e R s m args below meth c nL Q cells slots om lv pc (.ref a :: rest) := g_get E in_Mo hO q0 he rfl 21 (by decide) kf_Mo_54 rfl hv hd k
theorem gf_Mo_57 (E : gE p s m args c cc nL R_Mo V) (hO : gO om V ws) (q0 : Nat) {a : Nat} {fs : List Value} (he : ws[q0]? = some (a, .inr (4, fs))) {v : Value} (hv : fs[1]? = some v) (hd : decode cc pc = .ok (.getfield 57, 3)) (k : gg p l e R s m args below meth c nL Q cells slots om lv (pc + 3) (v :: rest)) : gg p l e R s m args below meth c nL Q cells slots om lv pc (.ref a :: rest) := g_get E in_Mo hO q0 he rfl 1 (by decide) kf_Mo_57 rfl hv hd k
theorem gf_Mo_61 (E : gE p s m args c cc nL R_Mo V) (hO : gO om V ws) (q0 : Nat) {a : Nat} {fs : List Value} (he : ws[q0]? = some (a, .inr (4, fs))) {v : Value} (hv : fs[0]? = some v) (hd : decode cc pc = .ok (.getfield 61, 3)) (k : gg p l e R s m args below meth c nL Q cells slots om lv (pc + 3) (v :: rest)) : gg p l e R s m args below meth c nL Q cells slots om lv pc (.ref a :: rest) := g_get E in_Mo hO q0 he rfl 0 (by decide) kf_Mo_61 rfl hv hd k
theorem pf_Mo_61 (E : gE p s m args c cc nL R_Mo V) (q0 : Nat) {a : Nat} {fs : List Value} (he : ws[q0]? = some (a, .inr (4, fs))) {v : Value} (hn : narrow .int v = v) (hfit : fits .int v = true) (hl0 : 0 < fs.length) {ws' : va_W} (hw : ws.set q0 (a, .inr (4, fs.set 0 v)) = ws') (hd : decode cc pc = .ok (.putfield 61, 3)) (k : gg p l e R s m args below meth c nL Q cells slots (gW V A H0 ws') lv (pc + 3) rest) : gg p l e R s m args below meth c nL Q cells slots (gW V A H0 ws) lv pc (v :: .ref a :: rest) := g_put E in_Mo ty_Mo tyok_Mo nm_Mo q0 he rfl 0 (by decide) kf_Mo_61 rfl rfl (ty := .int) (by decide +kernel) hn hfit hl0 hw hd k
theorem gf_Mo_68 (E : gE p s m args c cc nL R_Mo V) (hO : gO om V ws) (q0 : Nat) {a : Nat} {fs : List Value} (he : ws[q0]? = some (a, .inr (4, fs))) {v : Value} (hv : fs[4]? = some v) (hd : decode cc pc = .ok (.getfield 68, 3)) (k : gg p l e R s m args below meth c nL Q cells slots om lv (pc + 3) (v :: rest)) : gg p l e R s m args below meth c nL Q cells slots om lv pc (.ref a :: rest) := g_get E in_Mo hO q0 he rfl 4 (by decide) kf_Mo_68 rfl hv hd k
theorem pf_Mo_68 (E : gE p s m args c cc nL R_Mo V) (q0 : Nat) {a : Nat} {fs : List Value} (he : ws[q0]? = some (a, .inr (4, fs))) {v : Value} (hn : narrow .int v = v) (hfit : fits .int v = true) (hl0 : 4 < fs.length) {ws' : va_W} (hw : ws.set q0 (a, .inr (4, fs.set 4 v)) = ws') (hd : decode cc pc = .ok (.putfield 68, 3)) (k : gg p l e R s m args below meth c nL Q cells slots (gW V A H0 ws') lv (pc + 3) rest) : gg p l e R s m args below meth c nL Q cells slots (gW V A H0 ws) lv pc (v :: .ref a :: rest) := g_put E in_Mo ty_Mo tyok_Mo nm_Mo q0 he rfl 4 (by decide) kf_Mo_68 rfl rfl (ty := .int) (by decide +kernel) hn hfit hl0 hw hd k
theorem gf_Mo_75 (E : gE p s m args c cc nL R_Mo V) (hO : gO om V ws) (q0 : Nat) {a : Nat} {fs : List Value} (he : ws[q0]? = some (a, .inr (4, fs))) {v : Value} (hv : fs[9]? = some v) (hd : decode cc pc = .ok (.getfield 75, 3)) (k : gg p l e R s m args below meth c nL Q cells slots om lv (pc + 3) (v :: rest)) : gg p l e R s m args below meth c nL Q cells slots om lv pc (.ref a :: rest) := g_get E in_Mo hO q0 he rfl 9 (by decide) kf_Mo_75 rfl hv hd k
theorem pf_Mo_75 (E : gE p s m args c cc nL R_Mo V) (q0 : Nat) {a : Nat} {fs : List Value} (he : ws[q0]? = some (a, .inr (4, fs))) {v : Value} (hn : narrow .int v = v) (hfit : fits .int v = true) (hl0 : 9 < fs.length) {ws' : va_W} (hw : ws.set q0 (a, .inr (4, fs.set 9 v)) = ws') (hd : decode cc pc = .ok (.putfield 75, 3)) (k : gg p l e R s m args below meth c nL Q cells slots (gW V A H0 ws') lv (pc + 3) rest) : gg p l e R s m args below meth c nL Q cells slots (gW V A H0 ws) lv pc (v :: .ref a :: rest) := g_put E in_Mo ty_Mo tyok_Mo nm_Mo q0 he rfl 9 (by decide) kf_Mo_75 rfl rfl (ty := .int) (by decide +kernel) hn hfit hl0 hw hd k
theorem gf_Mo_106 (E : gE p s m args c cc nL R_Mo V) (hO : gO om V ws) (q0 : Nat) {a : Nat} {fs : List Value} (he : ws[q0]? = some (a, .inr (4, fs))) {v : Value} (hv : fs[17]? = some v) (hd : decode cc pc = .ok (.getfield 106, 3)) (k : gg p l e R s m args below meth c nL Q cells slots om lv (pc + 3) (v :: rest)) : gg p l e R s m args below meth c nL Q cells slots om lv pc (.ref a :: rest) := g_get E in_Mo hO q0 he rfl 17 (by decide) kf_Mo_106 rfl hv hd k
theorem pf_Mo_106 (E : gE p s m args c cc nL R_Mo V) (q0 : Nat) {a : Nat} {fs : List Value} (he : ws[q0]? = some (a, .inr (4, fs))) {v : Value} (hn : narrow .int v = v) (hfit : fits .int v = true) (hl0 : 17 < fs.length) {ws' : va_W} (hw : ws.set q0 (a, .inr (4, fs.set 17 v)) = ws') (hd : decode cc pc = .ok (.putfield 106, 3)) (k : gg p l e R s m args below meth c nL Q cells slots (gW V A H0 ws') lv (pc + 3) rest) : gg p l e R s m args below meth c nL Q cells slots (gW V A H0 ws) lv pc (v :: .ref a :: rest) := g_put E in_Mo ty_Mo tyok_Mo nm_Mo q0 he rfl 17 (by decide) kf_Mo_106 rfl rfl (ty := .int) (by decide +kernel) hn hfit hl0 hw hd k
theorem gf_Mo_130 (E : gE p s m args c cc nL R_Mo V) (hO : gO om V ws) (q0 : Nat) {a : Nat} {fs : List Value} (he : ws[q0]? = some (a, .inr (4, fs))) {v : Value} (hv : fs[22]? = some v) (hd : decode cc pc = .ok (.getfield 130, 3)) (k : gg p l e R s m args below meth c nL Q cells slots om lv (pc + 3) (v :: rest)) : gg p l e R s m args below meth c nL Q cells slots om lv pc (.ref a :: rest) := g_get E in_Mo hO q0 he rfl 22 (by decide) kf_Mo_130 rfl hv hd k
theorem pf_Mo_130 (E : gE p s m args c cc nL R_Mo V) (q0 : Nat) {a : Nat} {fs : List Value} (he : ws[q0]? = some (a, .inr (4, fs))) {v : Value} (hn : narrow .long v = v) (hfit : fits .long v = true) (hl0 : 22 < fs.length) {ws' : va_W} (hw : ws.set q0 (a, .inr (4, fs.set 22 v)) = ws') (hd : decode cc pc = .ok (.putfield 130, 3)) (k : gg p l e R s m args below meth c nL Q cells slots (gW V A H0 ws') lv (pc + 3) rest) : gg p l e R s m args below meth c nL Q cells slots (gW V A H0 ws) lv pc (v :: .ref a :: rest) := g_put E in_Mo ty_Mo tyok_Mo nm_Mo q0 he rfl 22 (by decide) kf_Mo_130 rfl rfl (ty := .long) (by decide +kernel) hn hfit hl0 hw hd k
theorem gf_Mo_144 (E : gE p s m args c cc nL R_Mo V) (hO : gO om V ws) (q0 : Nat) {a : Nat} {fs : List Value} (he : ws[q0]? = some (a, .inr (4, fs))) {v : Value} (hv : fs[18]? = some v) (hd : decode cc pc = .ok (.getfield 144, 3)) (k : gg p l e R s m args below meth c nL Q cells slots om lv (pc + 3) (v :: rest)) : gg p l e R s m args below meth c nL Q cells slots om lv pc (.ref a :: rest) := g_get E in_Mo hO q0 he rfl 18 (by decide) kf_Mo_144 rfl hv hd k
theorem pf_Mo_144 (E : gE p s m args c cc nL R_Mo V) (q0 : Nat) {a : Nat} {fs : List Value} (he : ws[q0]? = some (a, .inr (4, fs))) {v : Value} (hn : narrow .long v = v) (hfit : fits .long v = true) (hl0 : 18 < fs.length) {ws' : va_W} (hw : ws.set q0 (a, .inr (4, fs.set 18 v)) = ws') (hd : decode cc pc = .ok (.putfield 144, 3)) (k : gg p l e R s m args below meth c nL Q cells slots (gW V A H0 ws') lv (pc + 3) rest) : gg p l e R s m args below meth c nL Q cells slots (gW V A H0 ws) lv pc (v :: .ref a :: rest) := g_put E in_Mo ty_Mo tyok_Mo nm_Mo q0 he rfl 18 (by decide) kf_Mo_144 rfl rfl (ty := .long) (by decide +kernel) hn hfit hl0 hw hd k
theorem gf_Mo_147 (E : gE p s m args c cc nL R_Mo V) (hO : gO om V ws) (q0 : Nat) {a : Nat} {fs : List Value} (he : ws[q0]? = some (a, .inr (4, fs))) {v : Value} (hv : fs[19]? = some v) (hd : decode cc pc = .ok (.getfield 147, 3)) (k : gg p l e R s m args below meth c nL Q cells slots om lv (pc + 3) (v :: rest)) : gg p l e R s m args below meth c nL Q cells slots om lv pc (.ref a :: rest) := g_get E in_Mo hO q0 he rfl 19 (by decide) kf_Mo_147 rfl hv hd k
theorem pf_Mo_147 (E : gE p s m args c cc nL R_Mo V) (q0 : Nat) {a : Nat} {fs : List Value} (he : ws[q0]? = some (a, .inr (4, fs))) {v : Value} (hn : narrow .long v = v) (hfit : fits .long v = true) (hl0 : 19 < fs.length) {ws' : va_W} (hw : ws.set q0 (a, .inr (4, fs.set 19 v)) = ws') (hd : decode cc pc = .ok (.putfield 147, 3)) (k : gg p l e R s m args below meth c nL Q cells slots (gW V A H0 ws') lv (pc + 3) rest) : gg p l e R s m args below meth c nL Q cells slots (gW V A H0 ws) lv pc (v :: .ref a :: rest) := g_put E in_Mo ty_Mo tyok_Mo nm_Mo q0 he rfl 19 (by decide) kf_Mo_147 rfl rfl (ty := .long) (by decide +kernel) hn hfit hl0 hw hd k
theorem gf_Pa_9 (E : gE p s m args c cc nL R_Pa V) (hO : gO om V ws) (q0 : Nat) {a : Nat} {fs : List Value} (he : ws[q0]? = some (a, .inr (2, fs))) {v : Value} (hv : fs[1]? = some v) (hd : decode cc pc = .ok (.getfield 9, 3)) (k : gg p l e R s m args below meth c nL Q cells slots om lv (pc + 3) (v :: rest)) : gg p l e R s m args below meth c nL Q cells slots om lv pc (.ref a :: rest) := g_get E in_Pa hO q0 he rfl 1 (by decide) kf_Pa_9 rfl hv hd k
theorem gf_Pa_13 (E : gE p s m args c cc nL R_Pa V) (hO : gO om V ws) (q0 : Nat) {a : Nat} {fs : List Value} (he : ws[q0]? = some (a, .inr (2, fs))) {v : Value} (hv : fs[2]? = some v) (hd : decode cc pc = .ok (.getfield 13, 3)) (k : gg p l e R s m args below meth c nL Q cells slots om lv (pc + 3) (v :: rest)) : gg p l e R s m args below meth c nL Q cells slots om lv pc (.ref a :: rest) := g_get E in_Pa hO q0 he rfl 2 (by decide) kf_Pa_13 rfl hv hd k
theorem gf_Pa_18 (E : gE p s m args c cc nL R_Pa V) (hO : gO om V ws) (q0 : Nat) {a : Nat} {fs : List Value} (he : ws[q0]? = some (a, .inr (2, fs))) {v : Value} (hv : fs[3]? = some v) (hd : decode cc pc = .ok (.getfield 18, 3)) (k : gg p l e R s m args below meth c nL Q cells slots om lv (pc + 3) (v :: rest)) : gg p l e R s m args below meth c nL Q cells slots om lv pc (.ref a :: rest) := g_get E in_Pa hO q0 he rfl 3 (by decide) kf_Pa_18 rfl hv hd k
theorem gf_Pa_21 (E : gE p s m args c cc nL R_Pa V) (hO : gO om V ws) (q0 : Nat) {a : Nat} {fs : List Value} (he : ws[q0]? = some (a, .inr (2, fs))) {v : Value} (hv : fs[4]? = some v) (hd : decode cc pc = .ok (.getfield 21, 3)) (k : gg p l e R s m args below meth c nL Q cells slots om lv (pc + 3) (v :: rest)) : gg p l e R s m args below meth c nL Q cells slots om lv pc (.ref a :: rest) := g_get E in_Pa hO q0 he rfl 4 (by decide) kf_Pa_21 rfl hv hd k
theorem gf_Pa_24 (E : gE p s m args c cc nL R_Pa V) (hO : gO om V ws) (q0 : Nat) {a : Nat} {fs : List Value} (he : ws[q0]? = some (a, .inr (2, fs))) {v : Value} (hv : fs[5]? = some v) (hd : decode cc pc = .ok (.getfield 24, 3)) (k : gg p l e R s m args below meth c nL Q cells slots om lv (pc + 3) (v :: rest)) : gg p l e R s m args below meth c nL Q cells slots om lv pc (.ref a :: rest) := g_get E in_Pa hO q0 he rfl 5 (by decide) kf_Pa_24 rfl hv hd k
theorem gf_Pa_27 (E : gE p s m args c cc nL R_Pa V) (hO : gO om V ws) (q0 : Nat) {a : Nat} {fs : List Value} (he : ws[q0]? = some (a, .inr (2, fs))) {v : Value} (hv : fs[6]? = some v) (hd : decode cc pc = .ok (.getfield 27, 3)) (k : gg p l e R s m args below meth c nL Q cells slots om lv (pc + 3) (v :: rest)) : gg p l e R s m args below meth c nL Q cells slots om lv pc (.ref a :: rest) := g_get E in_Pa hO q0 he rfl 6 (by decide) kf_Pa_27 rfl hv hd k
theorem gf_Pa_31 (E : gE p s m args c cc nL R_Pa V) (hO : gO om V ws) (q0 : Nat) {a : Nat} {fs : List Value} (he : ws[q0]? = some (a, .inr (2, fs))) {v : Value} (hv : fs[7]? = some v) (hd : decode cc pc = .ok (.getfield 31, 3)) (k : gg p l e R s m args below meth c nL Q cells slots om lv (pc + 3) (v :: rest)) : gg p l e R s m args below meth c nL Q cells slots om lv pc (.ref a :: rest) := g_get E in_Pa hO q0 he rfl 7 (by decide) kf_Pa_31 rfl hv hd k
theorem gf_Pa_34 (E : gE p s m args c cc nL R_Pa V) (hO : gO om V ws) (q0 : Nat) {a : Nat} {fs : List Value} (he : ws[q0]? = some (a, .inr (2, fs))) {v : Value} (hv : fs[0]? = some v) (hd : decode cc pc = .ok (.getfield 34, 3)) (k : gg p l e R s m args below meth c nL Q cells slots om lv (pc + 3) (v :: rest)) : gg p l e R s m args below meth c nL Q cells slots om lv pc (.ref a :: rest) := g_get E in_Pa hO q0 he rfl 0 (by decide) kf_Pa_34 rfl hv hd k
theorem pf_Pa_34 (E : gE p s m args c cc nL R_Pa V) (q0 : Nat) {a : Nat} {fs : List Value} (he : ws[q0]? = some (a, .inr (2, fs))) {v : Value} (hn : narrow .int v = v) (hfit : fits .int v = true) (hl0 : 0 < fs.length) {ws' : va_W} (hw : ws.set q0 (a, .inr (2, fs.set 0 v)) = ws') (hd : decode cc pc = .ok (.putfield 34, 3)) (k : gg p l e R s m args below meth c nL Q cells slots (gW V A H0 ws') lv (pc + 3) rest) : gg p l e R s m args below meth c nL Q cells slots (gW V A H0 ws) lv pc (v :: .ref a :: rest) := g_put E in_Pa ty_Pa tyok_Pa nm_Pa q0 he rfl 0 (by decide) kf_Pa_34 rfl rfl (ty := .int) (by decide +kernel) hn hfit hl0 hw hd k
theorem gf_Pa_69 (E : gE p s m args c cc nL R_Pa V) (hO : gO om V ws) (q0 : Nat) {a : Nat} {fs : List Value} (he : ws[q0]? = some (a, .inr (2, fs))) {v : Value} (hv : fs[8]? = some v) (hd : decode cc pc = .ok (.getfield 69, 3)) (k : gg p l e R s m args below meth c nL Q cells slots om lv (pc + 3) (v :: rest)) : gg p l e R s m args below meth c nL Q cells slots om lv pc (.ref a :: rest) := g_get E in_Pa hO q0 he rfl 8 (by decide) kf_Pa_69 rfl hv hd k
theorem pf_Pa_69 (E : gE p s m args c cc nL R_Pa V) (q0 : Nat) {a : Nat} {fs : List Value} (he : ws[q0]? = some (a, .inr (2, fs))) {v : Value} (hn : narrow .int v = v) (hfit : fits .int v = true) (hl0 : 8 < fs.length) {ws' : va_W} (hw : ws.set q0 (a, .inr (2, fs.set 8 v)) = ws') (hd : decode cc pc = .ok (.putfield 69, 3)) (k : gg p l e R s m args below meth c nL Q cells slots (gW V A H0 ws') lv (pc + 3) rest) : gg p l e R s m args below meth c nL Q cells slots (gW V A H0 ws) lv pc (v :: .ref a :: rest) := g_put E in_Pa ty_Pa tyok_Pa nm_Pa q0 he rfl 8 (by decide) kf_Pa_69 rfl rfl (ty := .int) (by decide +kernel) hn hfit hl0 hw hd k
theorem gf_Wo_11 (E : gE p s m args c cc nL R_Wo V) (hO : gO om V ws) (q0 : Nat) {a : Nat} {fs : List Value} (he : ws[q0]? = some (a, .inr (3, fs))) {v : Value} (hv : fs[2]? = some v) (hd : decode cc pc = .ok (.getfield 11, 3)) (k : gg p l e R s m args below meth c nL Q cells slots om lv (pc + 3) (v :: rest)) : gg p l e R s m args below meth c nL Q cells slots om lv pc (.ref a :: rest) := g_get E in_Wo hO q0 he rfl 2 (by decide) kf_Wo_11 rfl hv hd k
theorem gf_Wo_15 (E : gE p s m args c cc nL R_Wo V) (hO : gO om V ws) (q0 : Nat) {a : Nat} {fs : List Value} (he : ws[q0]? = some (a, .inr (3, fs))) {v : Value} (hv : fs[3]? = some v) (hd : decode cc pc = .ok (.getfield 15, 3)) (k : gg p l e R s m args below meth c nL Q cells slots om lv (pc + 3) (v :: rest)) : gg p l e R s m args below meth c nL Q cells slots om lv pc (.ref a :: rest) := g_get E in_Wo hO q0 he rfl 3 (by decide) kf_Wo_15 rfl hv hd k
theorem gf_Wo_18 (E : gE p s m args c cc nL R_Wo V) (hO : gO om V ws) (q0 : Nat) {a : Nat} {fs : List Value} (he : ws[q0]? = some (a, .inr (3, fs))) {v : Value} (hv : fs[4]? = some v) (hd : decode cc pc = .ok (.getfield 18, 3)) (k : gg p l e R s m args below meth c nL Q cells slots om lv (pc + 3) (v :: rest)) : gg p l e R s m args below meth c nL Q cells slots om lv pc (.ref a :: rest) := g_get E in_Wo hO q0 he rfl 4 (by decide) kf_Wo_18 rfl hv hd k
theorem gf_Wo_21 (E : gE p s m args c cc nL R_Wo V) (hO : gO om V ws) (q0 : Nat) {a : Nat} {fs : List Value} (he : ws[q0]? = some (a, .inr (3, fs))) {v : Value} (hv : fs[5]? = some v) (hd : decode cc pc = .ok (.getfield 21, 3)) (k : gg p l e R s m args below meth c nL Q cells slots om lv (pc + 3) (v :: rest)) : gg p l e R s m args below meth c nL Q cells slots om lv pc (.ref a :: rest) := g_get E in_Wo hO q0 he rfl 5 (by decide) kf_Wo_21 rfl hv hd k
theorem gf_Wo_24 (E : gE p s m args c cc nL R_Wo V) (hO : gO om V ws) (q0 : Nat) {a : Nat} {fs : List Value} (he : ws[q0]? = some (a, .inr (3, fs))) {v : Value} (hv : fs[6]? = some v) (hd : decode cc pc = .ok (.getfield 24, 3)) (k : gg p l e R s m args below meth c nL Q cells slots om lv (pc + 3) (v :: rest)) : gg p l e R s m args below meth c nL Q cells slots om lv pc (.ref a :: rest) := g_get E in_Wo hO q0 he rfl 6 (by decide) kf_Wo_24 rfl hv hd k
theorem gf_Wo_27 (E : gE p s m args c cc nL R_Wo V) (hO : gO om V ws) (q0 : Nat) {a : Nat} {fs : List Value} (he : ws[q0]? = some (a, .inr (3, fs))) {v : Value} (hv : fs[7]? = some v) (hd : decode cc pc = .ok (.getfield 27, 3)) (k : gg p l e R s m args below meth c nL Q cells slots om lv (pc + 3) (v :: rest)) : gg p l e R s m args below meth c nL Q cells slots om lv pc (.ref a :: rest) := g_get E in_Wo hO q0 he rfl 7 (by decide) kf_Wo_27 rfl hv hd k
theorem gf_Wo_32 (E : gE p s m args c cc nL R_Wo V) (hO : gO om V ws) (q0 : Nat) {a : Nat} {fs : List Value} (he : ws[q0]? = some (a, .inr (3, fs))) {v : Value} (hv : fs[8]? = some v) (hd : decode cc pc = .ok (.getfield 32, 3)) (k : gg p l e R s m args below meth c nL Q cells slots om lv (pc + 3) (v :: rest)) : gg p l e R s m args below meth c nL Q cells slots om lv pc (.ref a :: rest) := g_get E in_Wo hO q0 he rfl 8 (by decide) kf_Wo_32 rfl hv hd k
theorem gf_Wo_37 (E : gE p s m args c cc nL R_Wo V) (hO : gO om V ws) (q0 : Nat) {a : Nat} {fs : List Value} (he : ws[q0]? = some (a, .inr (3, fs))) {v : Value} (hv : fs[10]? = some v) (hd : decode cc pc = .ok (.getfield 37, 3)) (k : gg p l e R s m args below meth c nL Q cells slots om lv (pc + 3) (v :: rest)) : gg p l e R s m args below meth c nL Q cells slots om lv pc (.ref a :: rest) := g_get E in_Wo hO q0 he rfl 10 (by decide) kf_Wo_37 rfl hv hd k
theorem gf_Wo_40 (E : gE p s m args c cc nL R_Wo V) (hO : gO om V ws) (q0 : Nat) {a : Nat} {fs : List Value} (he : ws[q0]? = some (a, .inr (3, fs))) {v : Value} (hv : fs[0]? = some v) (hd : decode cc pc = .ok (.getfield 40, 3)) (k : gg p l e R s m args below meth c nL Q cells slots om lv (pc + 3) (v :: rest)) : gg p l e R s m args below meth c nL Q cells slots om lv pc (.ref a :: rest) := g_get E in_Wo hO q0 he rfl 0 (by decide) kf_Wo_40 rfl hv hd k
theorem gf_Wo_44 (E : gE p s m args c cc nL R_Wo V) (hO : gO om V ws) (q0 : Nat) {a : Nat} {fs : List Value} (he : ws[q0]? = some (a, .inr (3, fs))) {v : Value} (hv : fs[1]? = some v) (hd : decode cc pc = .ok (.getfield 44, 3)) (k : gg p l e R s m args below meth c nL Q cells slots om lv (pc + 3) (v :: rest)) : gg p l e R s m args below meth c nL Q cells slots om lv pc (.ref a :: rest) := g_get E in_Wo hO q0 he rfl 1 (by decide) kf_Wo_44 rfl hv hd k
theorem pf_Wo_44 (E : gE p s m args c cc nL R_Wo V) (q0 : Nat) {a : Nat} {fs : List Value} (he : ws[q0]? = some (a, .inr (3, fs))) {v : Value} (hn : narrow .int v = v) (hfit : fits .int v = true) (hl0 : 1 < fs.length) {ws' : va_W} (hw : ws.set q0 (a, .inr (3, fs.set 1 v)) = ws') (hd : decode cc pc = .ok (.putfield 44, 3)) (k : gg p l e R s m args below meth c nL Q cells slots (gW V A H0 ws') lv (pc + 3) rest) : gg p l e R s m args below meth c nL Q cells slots (gW V A H0 ws) lv pc (v :: .ref a :: rest) := g_put E in_Wo ty_Wo tyok_Wo nm_Wo q0 he rfl 1 (by decide) kf_Wo_44 rfl rfl (ty := .int) (by decide +kernel) hn hfit hl0 hw hd k
theorem gf_Wo_68 (E : gE p s m args c cc nL R_Wo V) (hO : gO om V ws) (q0 : Nat) {a : Nat} {fs : List Value} (he : ws[q0]? = some (a, .inr (1, fs))) {v : Value} (hv : fs[0]? = some v) (hd : decode cc pc = .ok (.getfield 68, 3)) (k : gg p l e R s m args below meth c nL Q cells slots om lv (pc + 3) (v :: rest)) : gg p l e R s m args below meth c nL Q cells slots om lv pc (.ref a :: rest) := g_get E in_Ye hO q0 he rfl 0 (by decide) kf_Wo_68 rfl hv hd k
theorem gf_Wo_74 (E : gE p s m args c cc nL R_Wo V) (hO : gO om V ws) (q0 : Nat) {a : Nat} {fs : List Value} (he : ws[q0]? = some (a, .inr (1, fs))) {v : Value} (hv : fs[2]? = some v) (hd : decode cc pc = .ok (.getfield 74, 3)) (k : gg p l e R s m args below meth c nL Q cells slots om lv (pc + 3) (v :: rest)) : gg p l e R s m args below meth c nL Q cells slots om lv pc (.ref a :: rest) := g_get E in_Ye hO q0 he rfl 2 (by decide) kf_Wo_74 rfl hv hd k
theorem gf_Wo_99 (E : gE p s m args c cc nL R_Wo V) (hO : gO om V ws) (q0 : Nat) {a : Nat} {fs : List Value} (he : ws[q0]? = some (a, .inr (3, fs))) {v : Value} (hv : fs[9]? = some v) (hd : decode cc pc = .ok (.getfield 99, 3)) (k : gg p l e R s m args below meth c nL Q cells slots om lv (pc + 3) (v :: rest)) : gg p l e R s m args below meth c nL Q cells slots om lv pc (.ref a :: rest) := g_get E in_Wo hO q0 he rfl 9 (by decide) kf_Wo_99 rfl hv hd k
theorem pf_Wo_99 (E : gE p s m args c cc nL R_Wo V) (q0 : Nat) {a : Nat} {fs : List Value} (he : ws[q0]? = some (a, .inr (3, fs))) {v : Value} (hn : narrow .int v = v) (hfit : fits .int v = true) (hl0 : 9 < fs.length) {ws' : va_W} (hw : ws.set q0 (a, .inr (3, fs.set 9 v)) = ws') (hd : decode cc pc = .ok (.putfield 99, 3)) (k : gg p l e R s m args below meth c nL Q cells slots (gW V A H0 ws') lv (pc + 3) rest) : gg p l e R s m args below meth c nL Q cells slots (gW V A H0 ws) lv pc (v :: .ref a :: rest) := g_put E in_Wo ty_Wo tyok_Wo nm_Wo q0 he rfl 9 (by decide) kf_Wo_99 rfl rfl (ty := .int) (by decide +kernel) hn hfit hl0 hw hd k
theorem gf_Ye_9 (E : gE p s m args c cc nL R_Ye V) (hO : gO om V ws) (q0 : Nat) {a : Nat} {fs : List Value} (he : ws[q0]? = some (a, .inr (1, fs))) {v : Value} (hv : fs[1]? = some v) (hd : decode cc pc = .ok (.getfield 9, 3)) (k : gg p l e R s m args below meth c nL Q cells slots om lv (pc + 3) (v :: rest)) : gg p l e R s m args below meth c nL Q cells slots om lv pc (.ref a :: rest) := g_get E in_Ye hO q0 he rfl 1 (by decide) kf_Ye_9 rfl hv hd k
theorem gf_Ye_13 (E : gE p s m args c cc nL R_Ye V) (hO : gO om V ws) (q0 : Nat) {a : Nat} {fs : List Value} (he : ws[q0]? = some (a, .inr (1, fs))) {v : Value} (hv : fs[2]? = some v) (hd : decode cc pc = .ok (.getfield 13, 3)) (k : gg p l e R s m args below meth c nL Q cells slots om lv (pc + 3) (v :: rest)) : gg p l e R s m args below meth c nL Q cells slots om lv pc (.ref a :: rest) := g_get E in_Ye hO q0 he rfl 2 (by decide) kf_Ye_13 rfl hv hd k
theorem gf_Ye_16 (E : gE p s m args c cc nL R_Ye V) (hO : gO om V ws) (q0 : Nat) {a : Nat} {fs : List Value} (he : ws[q0]? = some (a, .inr (1, fs))) {v : Value} (hv : fs[0]? = some v) (hd : decode cc pc = .ok (.getfield 16, 3)) (k : gg p l e R s m args below meth c nL Q cells slots om lv (pc + 3) (v :: rest)) : gg p l e R s m args below meth c nL Q cells slots om lv pc (.ref a :: rest) := g_get E in_Ye hO q0 he rfl 0 (by decide) kf_Ye_16 rfl hv hd k
theorem cs_CY_9 (E : gE p s m args c cc nL R_CY V) {rm : Room} {mc ms : Nat} (hrc : rm.cells = mc) (hrs : rm.slots = ms) (hR : rm.frames + 1 ≤ R.frames ∧ 8 + (2 + 11) + rm.locals ≤ R.locals) : CallB R s args R_CY 9 y_Ma_minI c_Ma_minI 2 (some .int) (w_Ma_minI :: gt) rm mc ms 2 ∧ (Cond.static y_Ma_minI).before args s = true := cwuS E kc_Ma_minI kl_CY_9 ks_Ma_minI kn_Ma kd_Ma_minI hrc hrs hR
theorem cs_CY_15 (E : gE p s m args c cc nL R_CY V) {rm : Room} {mc ms : Nat} (hrc : rm.cells = mc) (hrs : rm.slots = ms) (hR : rm.frames + 1 ≤ R.frames ∧ 8 + (2 + 11) + rm.locals ≤ R.locals) : CallB R s args R_CY 15 y_Ma_maxI c_Ma_maxI 2 (some .int) (w_Ma_maxI :: gt) rm mc ms 2 ∧ (Cond.static y_Ma_maxI).before args s = true := cwuS E kc_Ma_maxI kl_CY_15 ks_Ma_maxI kn_Ma kd_Ma_maxI hrc hrs hR
theorem cs_CY_47 (E : gE p s m args c cc nL R_CY V) {rm : Room} {mc ms : Nat} (hrc : rm.cells = mc) (hrs : rm.slots = ms) (hR : rm.frames + 1 ≤ R.frames ∧ 8 + (2 + 11) + rm.locals ≤ R.locals) : CallW R s args R_CY R_Ye 47 y_Ye_has c_Ye_has 2 (some .boolean) (w_Ye_has :: gt) rm mc ms 1 := cwuV E kc_Ye_has kl_CY_47 ki_Ye_has kv_Ye_has kn_Ye kd_Ye_has hrc hrs hR
theorem cs_CY_51 (E : gE p s m args c cc nL R_CY V) {rm : Room} {mc ms : Nat} (hrc : rm.cells = mc) (hrs : rm.slots = ms) (hR : rm.frames + 1 ≤ R.frames ∧ 8 + (3 + 11) + rm.locals ≤ R.locals) : CallB R s args R_CY 51 y_CY_isWithin c_CY_isWithin 3 (some .boolean) (w_CY_isWithin :: gt) rm mc ms 3 ∧ (Cond.static y_CY_isWithin).before args s = true := cwuS E kc_CY_isWithin kl_CY_51 ks_CY_isWithin kn_CY kd_CY_isWithin hrc hrs hR
theorem cs_CY_55 (E : gE p s m args c cc nL R_CY V) {rm : Room} {mc ms : Nat} (hrc : rm.cells = mc) (hrs : rm.slots = ms) (hR : rm.frames + 1 ≤ R.frames ∧ 8 + (1 + 11) + rm.locals ≤ R.locals) : CallB R s args R_CY 55 y_CY_refuseUnless c_CY_refuseUnless 1 none (w_CY_refuseUnless :: gt) rm mc ms 1 ∧ (Cond.static y_CY_refuseUnless).before args s = true := cwuS E kc_CY_refuseUnless kl_CY_55 ks_CY_refuseUnless kn_CY kd_CY_refuseUnless hrc hrs hR
theorem cs_CY_71 (E : gE p s m args c cc nL R_CY V) {rm : Room} {mc ms : Nat} (hrc : rm.cells = mc) (hrs : rm.slots = ms) (hR : rm.frames + 1 ≤ R.frames ∧ 8 + (1 + 11) + rm.locals ≤ R.locals) : CallB R s args R_CY 71 y_CY_refuseIfFull c_CY_refuseIfFull 1 none (w_CY_refuseIfFull :: gt) rm mc ms 1 ∧ (Cond.static y_CY_refuseIfFull).before args s = true := cwuS E kc_CY_refuseIfFull kl_CY_71 ks_CY_refuseIfFull kn_CY kd_CY_refuseIfFull hrc hrs hR
theorem cs_CY_74 (E : gE p s m args c cc nL R_CY V) {rm : Room} {mc ms : Nat} (hrc : rm.cells = mc) (hrs : rm.slots = ms) (hR : rm.frames + 1 ≤ R.frames ∧ 8 + (5 + 11) + rm.locals ≤ R.locals) : CallW R s args R_CY R_Pa 74 y_Pa_add c_Pa_add 5 (some .int) (w_Pa_add :: gt) rm mc ms 2 := cwuV E kc_Pa_add kl_CY_74 ki_Pa_add kv_Pa_add kn_Pa kd_Pa_add hrc hrs hR
theorem cs_CY_77 (E : gE p s m args c cc nL R_CY V) {rm : Room} {mc ms : Nat} (hrc : rm.cells = mc) (hrs : rm.slots = ms) (hR : rm.frames + 1 ≤ R.frames ∧ 8 + (3 + 11) + rm.locals ≤ R.locals) : CallW R s args R_CY R_Pa 77 y_Pa_hasState c_Pa_hasState 3 (some .boolean) (w_Pa_hasState :: gt) rm mc ms 2 := cwuV E kc_Pa_hasState kl_CY_77 ki_Pa_hasState kv_Pa_hasState kn_Pa kd_Pa_hasState hrc hrs hR
theorem cs_CY_81 (E : gE p s m args c cc nL R_CY V) {rm : Room} {mc ms : Nat} (hrc : rm.cells = mc) (hrs : rm.slots = ms) (hR : rm.frames + 1 ≤ R.frames ∧ 8 + (4 + 11) + rm.locals ≤ R.locals) : CallW R s args R_CY R_Pa 81 y_Pa_going c_Pa_going 4 (some .int) (w_Pa_going :: gt) rm mc ms 3 := cwuV E kc_Pa_going kl_CY_81 ki_Pa_going kv_Pa_going kn_Pa kd_Pa_going hrc hrs hR
theorem cs_CY_85 (E : gE p s m args c cc nL R_CY V) {rm : Room} {mc ms : Nat} (hrc : rm.cells = mc) (hrs : rm.slots = ms) (hR : rm.frames + 1 ≤ R.frames ∧ 8 + (5 + 11) + rm.locals ≤ R.locals) : CallW R s args R_CY R_Pa 85 y_Pa_setGoing c_Pa_setGoing 5 none (w_Pa_setGoing :: gt) rm mc ms 4 := cwuV E kc_Pa_setGoing kl_CY_85 ki_Pa_setGoing kv_Pa_setGoing kn_Pa kd_Pa_setGoing hrc hrs hR
theorem cs_CY_93 (E : gE p s m args c cc nL R_CY V) {rm : Room} {mc ms : Nat} (hrc : rm.cells = mc) (hrs : rm.slots = ms) (hR : rm.frames + 1 ≤ R.frames ∧ 8 + (4 + 11) + rm.locals ≤ R.locals) : CallW R s args R_CY R_Pa 93 y_Pa_goTo c_Pa_goTo 4 none (w_Pa_goTo :: gt) rm mc ms 2 := cwuV E kc_Pa_goTo kl_CY_93 ki_Pa_goTo kv_Pa_goTo kn_Pa kd_Pa_goTo hrc hrs hR
theorem cs_CY_100 (E : gE p s m args c cc nL R_CY V) {rm : Room} {mc ms : Nat} (hrc : rm.cells = mc) (hrs : rm.slots = ms) (hR : rm.frames + 1 ≤ R.frames ∧ 8 + (2 + 11) + rm.locals ≤ R.locals) : CallW R s args R_CY R_Pa 100 y_Pa_has c_Pa_has 2 (some .boolean) (w_Pa_has :: gt) rm mc ms 1 := cwuV E kc_Pa_has kl_CY_100 ki_Pa_has kv_Pa_has kn_Pa kd_Pa_has hrc hrs hR
theorem cs_CY_101 (E : gE p s m args c cc nL R_CY V) {rm : Room} {mc ms : Nat} (hrc : rm.cells = mc) (hrs : rm.slots = ms) (hR : rm.frames + 1 ≤ R.frames ∧ 8 + (5 + 11) + rm.locals ≤ R.locals) : CallW R s args R_CY R_Pa 101 y_Pa_careTaken c_Pa_careTaken 5 (some .int) (w_Pa_careTaken :: gt) rm mc ms 1 := cwuV E kc_Pa_careTaken kl_CY_101 ki_Pa_careTaken kv_Pa_careTaken kn_Pa kd_Pa_careTaken hrc hrs hR
theorem cs_CY_105 (E : gE p s m args c cc nL R_CY V) {rm : Room} {mc ms : Nat} (hrc : rm.cells = mc) (hrs : rm.slots = ms) (hR : rm.frames + 1 ≤ R.frames ∧ 8 + (3 + 11) + rm.locals ≤ R.locals) : CallW R s args R_CY R_Ye 105 y_Ye_costIn c_Ye_costIn 3 (some .int) (w_Ye_costIn :: gt) rm mc ms 2 := cwuV E kc_Ye_costIn kl_CY_105 ki_Ye_costIn kv_Ye_costIn kn_Ye kd_Ye_costIn hrc hrs hR
theorem cs_CY_108 (E : gE p s m args c cc nL R_CY V) {rm : Room} {mc ms : Nat} (hrc : rm.cells = mc) (hrs : rm.slots = ms) (hR : rm.frames + 1 ≤ R.frames ∧ 8 + (4 + 11) + rm.locals ≤ R.locals) : CallW R s args R_CY R_Pa 108 y_Pa_greatestState c_Pa_greatestState 4 (some .int) (w_Pa_greatestState :: gt) rm mc ms 1 := cwuV E kc_Pa_greatestState kl_CY_108 ki_Pa_greatestState kv_Pa_greatestState kn_Pa kd_Pa_greatestState hrc hrs hR
theorem cs_CY_113 (E : gE p s m args c cc nL R_CY V) {rm : Room} {mc ms : Nat} (hrc : rm.cells = mc) (hrs : rm.slots = ms) (hR : rm.frames + 1 ≤ R.frames ∧ 8 + (6 + 11) + rm.locals ≤ R.locals) : CallW R s args R_CY R_Wo 113 y_Wo_add c_Wo_add 6 (some .int) (w_Wo_add :: gt) rm mc ms 4 := cwuV E kc_Wo_add kl_CY_113 ki_Wo_add kv_Wo_add kn_Wo kd_Wo_add hrc hrs hR
theorem cs_CY_116 (E : gE p s m args c cc nL R_CY V) {rm : Room} {mc ms : Nat} (hrc : rm.cells = mc) (hrs : rm.slots = ms) (hR : rm.frames + 1 ≤ R.frames ∧ 8 + (2 + 11) + rm.locals ≤ R.locals) : CallW R s args R_CY R_Wo 116 y_Wo_has c_Wo_has 2 (some .boolean) (w_Wo_has :: gt) rm mc ms 1 := cwuV E kc_Wo_has kl_CY_116 ki_Wo_has kv_Wo_has kn_Wo kd_Wo_has hrc hrs hR
theorem cs_CY_123 (E : gE p s m args c cc nL R_CY V) {rm : Room} {mc ms : Nat} (hrc : rm.cells = mc) (hrs : rm.slots = ms) (hR : rm.frames + 1 ≤ R.frames ∧ 8 + (2 + 11) + rm.locals ≤ R.locals) : CallB R s args R_CY 123 y_CY_holds c_CY_holds 2 (some .boolean) (w_CY_holds :: gt) rm mc ms 2 ∧ (Cond.static y_CY_holds).before args s = true := cwuS E kc_CY_holds kl_CY_123 ks_CY_holds kn_CY kd_CY_holds hrc hrs hR
theorem cs_CY_126 (E : gE p s m args c cc nL R_CY V) {rm : Room} {mc ms : Nat} (hrc : rm.cells = mc) (hrs : rm.slots = ms) (hR : rm.frames + 1 ≤ R.frames ∧ 8 + (3 + 11) + rm.locals ≤ R.locals) : CallB R s args R_CY 126 y_CY_withBit c_CY_withBit 3 (some .int) (w_CY_withBit :: gt) rm mc ms 3 ∧ (Cond.static y_CY_withBit).before args s = true := cwuS E kc_CY_withBit kl_CY_126 ks_CY_withBit kn_CY kd_CY_withBit hrc hrs hR
theorem cs_CY_133 (E : gE p s m args c cc nL R_CY V) {rm : Room} {mc ms : Nat} (hrc : rm.cells = mc) (hrs : rm.slots = ms) (hR : rm.frames + 1 ≤ R.frames ∧ 8 + (9 + 11) + rm.locals ≤ R.locals) : CallW R s args R_CY R_Wo 133 y_Wo_makeChoice c_Wo_makeChoice 9 none (w_Wo_makeChoice :: gt) rm mc ms 0 := cwuV E kc_Wo_makeChoice kl_CY_133 ki_Wo_makeChoice kv_Wo_makeChoice kn_Wo kd_Wo_makeChoice hrc hrs hR
theorem cs_CY_136 (E : gE p s m args c cc nL R_CY V) {rm : Room} {mc ms : Nat} (hrc : rm.cells = mc) (hrs : rm.slots = ms) (hR : rm.frames + 1 ≤ R.frames ∧ 8 + (3 + 11) + rm.locals ≤ R.locals) : CallW R s args R_CY R_CY 136 y_CY_renewParts c_CY_renewParts 3 none (w_CY_renewParts :: gt) rm mc ms 0 := cwuV E kc_CY_renewParts kl_CY_136 ki_CY_renewParts kv_CY_renewParts kn_CY kd_CY_renewParts hrc hrs hR
theorem cs_CY_142 (E : gE p s m args c cc nL R_CY V) {rm : Room} {mc ms : Nat} (hrc : rm.cells = mc) (hrs : rm.slots = ms) (hR : rm.frames + 1 ≤ R.frames ∧ 8 + (4 + 11) + rm.locals ≤ R.locals) : CallW R s args R_CY R_Wo 142 y_Wo_worthOf c_Wo_worthOf 4 (some .int) (w_Wo_worthOf :: gt) rm mc ms 1 := cwuV E kc_Wo_worthOf kl_CY_142 ki_Wo_worthOf kv_Wo_worthOf kn_Wo kd_Wo_worthOf hrc hrs hR
theorem cs_CY_145 (E : gE p s m args c cc nL R_CY V) {rm : Room} {mc ms : Nat} (hrc : rm.cells = mc) (hrs : rm.slots = ms) (hR : rm.frames + 1 ≤ R.frames ∧ 8 + (4 + 11) + rm.locals ≤ R.locals) : CallW R s args R_CY R_Wo 145 y_Wo_spend c_Wo_spend 4 none (w_Wo_spend :: gt) rm mc ms 1 := cwuV E kc_Wo_spend kl_CY_145 ki_Wo_spend kv_Wo_spend kn_Wo kd_Wo_spend hrc hrs hR
theorem cs_CY_151 (E : gE p s m args c cc nL R_CY V) {rm : Room} {mc ms : Nat} (hrc : rm.cells = mc) (hrs : rm.slots = ms) (hR : rm.frames + 1 ≤ R.frames ∧ 8 + (1 + 11) + rm.locals ≤ R.locals) : CallW R s args R_CY R_Wo 151 y_Wo_all c_Wo_all 1 (some .int) (w_Wo_all :: gt) rm mc ms 0 := cwuV E kc_Wo_all kl_CY_151 ki_Wo_all kv_Wo_all kn_Wo kd_Wo_all hrc hrs hR
theorem cs_CY_155 (E : gE p s m args c cc nL R_CY V) {rm : Room} {mc ms : Nat} (hrc : rm.cells = mc) (hrs : rm.slots = ms) (hR : rm.frames + 1 ≤ R.frames ∧ 8 + (3 + 11) + rm.locals ≤ R.locals) : CallW R s args R_CY R_Wo 155 y_Wo_agree c_Wo_agree 3 (some .boolean) (w_Wo_agree :: gt) rm mc ms 1 := cwuV E kc_Wo_agree kl_CY_155 ki_Wo_agree kv_Wo_agree kn_Wo kd_Wo_agree hrc hrs hR
theorem cs_CY_158 (E : gE p s m args c cc nL R_CY V) {rm : Room} {mc ms : Nat} (hrc : rm.cells = mc) (hrs : rm.slots = ms) (hR : rm.frames + 1 ≤ R.frames ∧ 8 + (3 + 11) + rm.locals ≤ R.locals) : CallW R s args R_CY R_Wo 158 y_Wo_spentOverBudgets c_Wo_spentOverBudgets 3 (some .int) (w_Wo_spentOverBudgets :: gt) rm mc ms 0 := cwuV E kc_Wo_spentOverBudgets kl_CY_158 ki_Wo_spentOverBudgets kv_Wo_spentOverBudgets kn_Wo kd_Wo_spentOverBudgets hrc hrs hR
theorem cs_CY_167 (E : gE p s m args c cc nL R_CY V) {rm : Room} {mc ms : Nat} (hrc : rm.cells = mc) (hrs : rm.slots = ms) (hR : rm.frames + 1 ≤ R.frames ∧ 8 + (4 + 11) + rm.locals ≤ R.locals) : CallW R s args R_CY R_CY 167 y_CY_reckonReserves c_CY_reckonReserves 4 none (w_CY_reckonReserves :: gt) rm mc ms 0 := cwuV E kc_CY_reckonReserves kl_CY_167 ki_CY_reckonReserves kv_CY_reckonReserves kn_CY kd_CY_reckonReserves hrc hrs hR
theorem cs_CY_171 (E : gE p s m args c cc nL R_CY V) {rm : Room} {mc ms : Nat} (hrc : rm.cells = mc) (hrs : rm.slots = ms) (hR : rm.frames + 1 ≤ R.frames ∧ 8 + (3 + 11) + rm.locals ≤ R.locals) : CallB R s args R_CY 171 y_Lo_isOne c_Lo_isOne 3 (some .boolean) (w_Lo_isOne :: gt) rm mc ms 3 ∧ (Cond.static y_Lo_isOne).before args s = true := cwuS E kc_Lo_isOne kl_CY_171 ks_Lo_isOne kn_Lo kd_Lo_isOne hrc hrs hR
theorem cs_CY_176 (E : gE p s m args c cc nL R_CY V) {rm : Room} {mc ms : Nat} (hrc : rm.cells = mc) (hrs : rm.slots = ms) (hR : rm.frames + 1 ≤ R.frames ∧ 8 + (8 + 11) + rm.locals ≤ R.locals) : CallB R s args R_CY 176 y_Lo_leastPayment c_Lo_leastPayment 8 (some .int) (w_Lo_leastPayment :: gt) rm mc ms 3 ∧ (Cond.static y_Lo_leastPayment).before args s = true := cwuS E kc_Lo_leastPayment kl_CY_176 ks_Lo_leastPayment kn_Lo kd_Lo_leastPayment hrc hrs hR
theorem cs_CY_179 (E : gE p s m args c cc nL R_CY V) {rm : Room} {mc ms : Nat} (hrc : rm.cells = mc) (hrs : rm.slots = ms) (hR : rm.frames + 1 ≤ R.frames ∧ 8 + (10 + 11) + rm.locals ≤ R.locals) : CallB R s args R_CY 179 y_Lo_restBehind c_Lo_restBehind 10 (some .long) (w_Lo_restBehind :: gt) rm mc ms 4 ∧ (Cond.static y_Lo_restBehind).before args s = true := cwuS E kc_Lo_restBehind kl_CY_179 ks_Lo_restBehind kn_Lo kd_Lo_restBehind hrc hrs hR
theorem cs_CY_198 (E : gE p s m args c cc nL R_CY V) {rm : Room} {mc ms : Nat} (hrc : rm.cells = mc) (hrs : rm.slots = ms) (hR : rm.frames + 1 ≤ R.frames ∧ 8 + (4 + 11) + rm.locals ≤ R.locals) : CallB R s args R_CY 198 y_Ar_fillI c_Ar_fillI 4 none (w_Ar_fillI :: gt) rm mc ms 2 ∧ (Cond.static y_Ar_fillI).before args s = true := cwuS E kc_Ar_fillI kl_CY_198 ks_Ar_fillI kn_Ar kd_Ar_fillI hrc hrs hR
theorem cs_CY_210 (E : gE p s m args c cc nL R_CY V) {rm : Room} {mc ms : Nat} (hrc : rm.cells = mc) (hrs : rm.slots = ms) (hR : rm.frames + 1 ≤ R.frames ∧ 8 + (3 + 11) + rm.locals ≤ R.locals) : CallW R s args R_CY R_CY 210 y_CY_takeCareFromReserves c_CY_takeCareFromReserves 3 none (w_CY_takeCareFromReserves :: gt) rm mc ms 1 := cwuV E kc_CY_takeCareFromReserves kl_CY_210 ki_CY_takeCareFromReserves kv_CY_takeCareFromReserves kn_CY kd_CY_takeCareFromReserves hrc hrs hR
theorem cs_CY_213 (E : gE p s m args c cc nL R_CY V) {rm : Room} {mc ms : Nat} (hrc : rm.cells = mc) (hrs : rm.slots = ms) (hR : rm.frames + 1 ≤ R.frames ∧ 8 + (3 + 11) + rm.locals ≤ R.locals) : CallW R s args R_CY R_Pa 213 y_Pa_enter c_Pa_enter 3 none (w_Pa_enter :: gt) rm mc ms 2 := cwuV E kc_Pa_enter kl_CY_213 ki_Pa_enter kv_Pa_enter kn_Pa kd_Pa_enter hrc hrs hR
theorem cs_La_7 (E : gE p s m args c cc nL R_La V) {rm : Room} {mc ms : Nat} (hrc : rm.cells = mc) (hrs : rm.slots = ms) (hR : rm.frames + 1 ≤ R.frames ∧ 8 + (4 + 11) + rm.locals ≤ R.locals) : CallW R s args R_La R_CY 7 y_CY_index c_CY_index 4 (some .int) (w_CY_index :: gt) rm mc ms 2 := cwuV E kc_CY_index kl_La_7 ki_CY_index kv_CY_index kn_CY kd_CY_index hrc hrs hR
theorem cs_La_15 (E : gE p s m args c cc nL R_La V) {rm : Room} {mc ms : Nat} (hrc : rm.cells = mc) (hrs : rm.slots = ms) (hR : rm.frames + 1 ≤ R.frames ∧ 8 + (4 + 11) + rm.locals ≤ R.locals) : CallW R s args R_La R_CY 15 y_CY_budget c_CY_budget 4 (some .int) (w_CY_budget :: gt) rm mc ms 2 := cwuV E kc_CY_budget kl_La_15 ki_CY_budget kv_CY_budget kn_CY kd_CY_budget hrc hrs hR
theorem cs_La_18 (E : gE p s m args c cc nL R_La V) {rm : Room} {mc ms : Nat} (hrc : rm.cells = mc) (hrs : rm.slots = ms) (hR : rm.frames + 1 ≤ R.frames ∧ 8 + (3 + 11) + rm.locals ≤ R.locals) : CallW R s args R_La R_CY 18 y_CY_part c_CY_part 3 (some .int) (w_CY_part :: gt) rm mc ms 2 := cwuV E kc_CY_part kl_La_18 ki_CY_part kv_CY_part kn_CY kd_CY_part hrc hrs hR
theorem cs_La_23 (E : gE p s m args c cc nL R_La V) {rm : Room} {mc ms : Nat} (hrc : rm.cells = mc) (hrs : rm.slots = ms) (hR : rm.frames + 1 ≤ R.frames ∧ 8 + (7 + 11) + rm.locals ≤ R.locals) : CallW R s args R_La R_CY 23 y_CY_moves c_CY_moves 7 (some .int) (w_CY_moves :: gt) rm mc ms 4 := cwuV E kc_CY_moves kl_La_23 ki_CY_moves kv_CY_moves kn_CY kd_CY_moves hrc hrs hR
theorem cs_La_27 (E : gE p s m args c cc nL R_La V) {rm : Room} {mc ms : Nat} (hrc : rm.cells = mc) (hrs : rm.slots = ms) (hR : rm.frames + 1 ≤ R.frames ∧ 8 + (5 + 11) + rm.locals ≤ R.locals) : CallW R s args R_La R_CY 27 y_CY_care c_CY_care 5 (some .int) (w_CY_care :: gt) rm mc ms 3 := cwuV E kc_CY_care kl_La_27 ki_CY_care kv_CY_care kn_CY kd_CY_care hrc hrs hR
theorem cs_La_31 (E : gE p s m args c cc nL R_La V) {rm : Room} {mc ms : Nat} (hrc : rm.cells = mc) (hrs : rm.slots = ms) (hR : rm.frames + 1 ≤ R.frames ∧ 8 + (4 + 11) + rm.locals ≤ R.locals) : CallW R s args R_La R_CY 31 y_CY_share c_CY_share 4 (some .long) (w_CY_share :: gt) rm mc ms 3 := cwuV E kc_CY_share kl_La_31 ki_CY_share kv_CY_share kn_CY kd_CY_share hrc hrs hR
theorem cs_La_35 (E : gE p s m args c cc nL R_La V) {rm : Room} {mc ms : Nat} (hrc : rm.cells = mc) (hrs : rm.slots = ms) (hR : rm.frames + 1 ≤ R.frames ∧ 8 + (3 + 11) + rm.locals ≤ R.locals) : CallW R s args R_La R_CY 35 y_CY_cares c_CY_cares 3 (some .int) (w_CY_cares :: gt) rm mc ms 2 := cwuV E kc_CY_cares kl_La_35 ki_CY_cares kv_CY_cares kn_CY kd_CY_cares hrc hrs hR
theorem cs_La_38 (E : gE p s m args c cc nL R_La V) {rm : Room} {mc ms : Nat} (hrc : rm.cells = mc) (hrs : rm.slots = ms) (hR : rm.frames + 1 ≤ R.frames ∧ 8 + (3 + 11) + rm.locals ≤ R.locals) : CallW R s args R_La R_CY 38 y_CY_most c_CY_most 3 (some .int) (w_CY_most :: gt) rm mc ms 2 := cwuV E kc_CY_most kl_La_38 ki_CY_most kv_CY_most kn_CY kd_CY_most hrc hrs hR
theorem cs_La_41 (E : gE p s m args c cc nL R_La V) {rm : Room} {mc ms : Nat} (hrc : rm.cells = mc) (hrs : rm.slots = ms) (hR : rm.frames + 1 ≤ R.frames ∧ 8 + (5 + 11) + rm.locals ≤ R.locals) : CallW R s args R_La R_CY 41 y_CY_work c_CY_work 5 (some .int) (w_CY_work :: gt) rm mc ms 4 := cwuV E kc_CY_work kl_La_41 ki_CY_work kv_CY_work kn_CY kd_CY_work hrc hrs hR
theorem cs_La_44 (E : gE p s m args c cc nL R_La V) {rm : Room} {mc ms : Nat} (hrc : rm.cells = mc) (hrs : rm.slots = ms) (hR : rm.frames + 1 ≤ R.frames ∧ 8 + (5 + 11) + rm.locals ≤ R.locals) : CallW R s args R_La R_CY 44 y_CY_join c_CY_join 5 (some .int) (w_CY_join :: gt) rm mc ms 3 := cwuV E kc_CY_join kl_La_44 ki_CY_join kv_CY_join kn_CY kd_CY_join hrc hrs hR
theorem cs_La_47 (E : gE p s m args c cc nL R_La V) {rm : Room} {mc ms : Nat} (hrc : rm.cells = mc) (hrs : rm.slots = ms) (hR : rm.frames + 1 ≤ R.frames ∧ 8 + (5 + 11) + rm.locals ≤ R.locals) : CallW R s args R_La R_CY 47 y_CY_clash c_CY_clash 5 (some .boolean) (w_CY_clash :: gt) rm mc ms 3 := cwuV E kc_CY_clash kl_La_47 ki_CY_clash kv_CY_clash kn_CY kd_CY_clash hrc hrs hR
theorem cs_La_51 (E : gE p s m args c cc nL R_La V) {rm : Room} {mc ms : Nat} (hrc : rm.cells = mc) (hrs : rm.slots = ms) (hR : rm.frames + 1 ≤ R.frames ∧ 8 + (4 + 11) + rm.locals ≤ R.locals) : CallW R s args R_La R_CY 51 y_CY_needs c_CY_needs 4 (some .int) (w_CY_needs :: gt) rm mc ms 2 := cwuV E kc_CY_needs kl_La_51 ki_CY_needs kv_CY_needs kn_CY kd_CY_needs hrc hrs hR
theorem cs_La_54 (E : gE p s m args c cc nL R_La V) {rm : Room} {mc ms : Nat} (hrc : rm.cells = mc) (hrs : rm.slots = ms) (hR : rm.frames + 1 ≤ R.frames ∧ 8 + (2 + 11) + rm.locals ≤ R.locals) : CallW R s args R_La R_CY 54 y_CY_chosen c_CY_chosen 2 (some .boolean) (w_CY_chosen :: gt) rm mc ms 1 := cwuV E kc_CY_chosen kl_La_54 ki_CY_chosen kv_CY_chosen kn_CY kd_CY_chosen hrc hrs hR
theorem cs_La_58 (E : gE p s m args c cc nL R_La V) {rm : Room} {mc ms : Nat} (hrc : rm.cells = mc) (hrs : rm.slots = ms) (hR : rm.frames + 1 ≤ R.frames ∧ 8 + (2 + 11) + rm.locals ≤ R.locals) : CallW R s args R_La R_CY 58 y_CY_costs c_CY_costs 2 (some .int) (w_CY_costs :: gt) rm mc ms 1 := cwuV E kc_CY_costs kl_La_58 ki_CY_costs kv_CY_costs kn_CY kd_CY_costs hrc hrs hR
theorem cs_La_62 (E : gE p s m args c cc nL R_La V) {rm : Room} {mc ms : Nat} (hrc : rm.cells = mc) (hrs : rm.slots = ms) (hR : rm.frames + 1 ≤ R.frames ∧ 8 + (3 + 11) + rm.locals ≤ R.locals) : CallW R s args R_La R_CY 62 y_CY_money c_CY_money 3 none (w_CY_money :: gt) rm mc ms 2 := cwuV E kc_CY_money kl_La_62 ki_CY_money kv_CY_money kn_CY kd_CY_money hrc hrs hR
theorem cs_La_66 (E : gE p s m args c cc nL R_La V) {rm : Room} {mc ms : Nat} (hrc : rm.cells = mc) (hrs : rm.slots = ms) (hR : rm.frames + 1 ≤ R.frames ∧ 8 + (2 + 11) + rm.locals ≤ R.locals) : CallW R s args R_La R_CY 66 y_CY_reserve c_CY_reserve 2 (some .long) (w_CY_reserve :: gt) rm mc ms 1 := cwuV E kc_CY_reserve kl_La_66 ki_CY_reserve kv_CY_reserve kn_CY kd_CY_reserve hrc hrs hR
theorem cs_La_70 (E : gE p s m args c cc nL R_La V) {rm : Room} {mc ms : Nat} (hrc : rm.cells = mc) (hrs : rm.slots = ms) (hR : rm.frames + 1 ≤ R.frames ∧ 8 + (4 + 11) + rm.locals ≤ R.locals) : CallW R s args R_La R_CY 70 y_CY_payment c_CY_payment 4 (some .int) (w_CY_payment :: gt) rm mc ms 3 := cwuV E kc_CY_payment kl_La_70 ki_CY_payment kv_CY_payment kn_CY kd_CY_payment hrc hrs hR
theorem cs_La_73 (E : gE p s m args c cc nL R_La V) {rm : Room} {mc ms : Nat} (hrc : rm.cells = mc) (hrs : rm.slots = ms) (hR : rm.frames + 1 ≤ R.frames ∧ 8 + (5 + 11) + rm.locals ≤ R.locals) : CallW R s args R_La R_CY 73 y_CY_rest c_CY_rest 5 (some .int) (w_CY_rest :: gt) rm mc ms 4 := cwuV E kc_CY_rest kl_La_73 ki_CY_rest kv_CY_rest kn_CY kd_CY_rest hrc hrs hR
theorem cs_La_76 (E : gE p s m args c cc nL R_La V) {rm : Room} {mc ms : Nat} (hrc : rm.cells = mc) (hrs : rm.slots = ms) (hR : rm.frames + 1 ≤ R.frames ∧ 8 + (2 + 11) + rm.locals ≤ R.locals) : CallB R s args R_La 76 y_La_cell c_La_cell 2 (some .int) (w_La_cell :: gt) rm mc ms 2 ∧ (Cond.static y_La_cell).before args s = true := cwuS E kc_La_cell kl_La_76 ks_La_cell kn_La kd_La_cell hrc hrs hR
theorem cs_La_91 (E : gE p s m args c cc nL R_La V) {rm : Room} {mc ms : Nat} (hrc : rm.cells = mc) (hrs : rm.slots = ms) (hR : rm.frames + 1 ≤ R.frames ∧ 8 + (4 + 11) + rm.locals ≤ R.locals) : CallW R s args R_La R_Mo 91 y_Mo_index c_Mo_index 4 (some .int) (w_Mo_index :: gt) rm mc ms 2 := cwuV E kc_Mo_index kl_La_91 ki_Mo_index kv_Mo_index kn_Mo kd_Mo_index hrc hrs hR
theorem cs_La_92 (E : gE p s m args c cc nL R_La V) {rm : Room} {mc ms : Nat} (hrc : rm.cells = mc) (hrs : rm.slots = ms) (hR : rm.frames + 1 ≤ R.frames ∧ 8 + (1 + 11) + rm.locals ≤ R.locals) : CallW R s args R_La R_Mo 92 y_Mo_thrown c_Mo_thrown 1 (some .int) (w_Mo_thrown :: gt) rm mc ms 0 := cwuV E kc_Mo_thrown kl_La_92 ki_Mo_thrown kv_Mo_thrown kn_Mo kd_Mo_thrown hrc hrs hR
theorem cs_La_98 (E : gE p s m args c cc nL R_La V) {rm : Room} {mc ms : Nat} (hrc : rm.cells = mc) (hrs : rm.slots = ms) (hR : rm.frames + 1 ≤ R.frames ∧ 8 + (4 + 11) + rm.locals ≤ R.locals) : CallW R s args R_La R_Mo 98 y_Mo_budget c_Mo_budget 4 (some .int) (w_Mo_budget :: gt) rm mc ms 2 := cwuV E kc_Mo_budget kl_La_98 ki_Mo_budget kv_Mo_budget kn_Mo kd_Mo_budget hrc hrs hR
theorem cs_La_101 (E : gE p s m args c cc nL R_La V) {rm : Room} {mc ms : Nat} (hrc : rm.cells = mc) (hrs : rm.slots = ms) (hR : rm.frames + 1 ≤ R.frames ∧ 8 + (4 + 11) + rm.locals ≤ R.locals) : CallW R s args R_La R_Mo 101 y_Mo_part c_Mo_part 4 (some .int) (w_Mo_part :: gt) rm mc ms 2 := cwuV E kc_Mo_part kl_La_101 ki_Mo_part kv_Mo_part kn_Mo kd_Mo_part hrc hrs hR
theorem cs_La_105 (E : gE p s m args c cc nL R_La V) {rm : Room} {mc ms : Nat} (hrc : rm.cells = mc) (hrs : rm.slots = ms) (hR : rm.frames + 1 ≤ R.frames ∧ 8 + (7 + 11) + rm.locals ≤ R.locals) : CallW R s args R_La R_Mo 105 y_Mo_moves c_Mo_moves 7 (some .int) (w_Mo_moves :: gt) rm mc ms 4 := cwuV E kc_Mo_moves kl_La_105 ki_Mo_moves kv_Mo_moves kn_Mo kd_Mo_moves hrc hrs hR
theorem cs_La_109 (E : gE p s m args c cc nL R_La V) {rm : Room} {mc ms : Nat} (hrc : rm.cells = mc) (hrs : rm.slots = ms) (hR : rm.frames + 1 ≤ R.frames ∧ 8 + (5 + 11) + rm.locals ≤ R.locals) : CallW R s args R_La R_Mo 109 y_Mo_care c_Mo_care 5 (some .int) (w_Mo_care :: gt) rm mc ms 3 := cwuV E kc_Mo_care kl_La_109 ki_Mo_care kv_Mo_care kn_Mo kd_Mo_care hrc hrs hR
theorem cs_La_112 (E : gE p s m args c cc nL R_La V) {rm : Room} {mc ms : Nat} (hrc : rm.cells = mc) (hrs : rm.slots = ms) (hR : rm.frames + 1 ≤ R.frames ∧ 8 + (6 + 11) + rm.locals ≤ R.locals) : CallW R s args R_La R_Mo 112 y_Mo_share c_Mo_share 6 (some .long) (w_Mo_share :: gt) rm mc ms 3 := cwuV E kc_Mo_share kl_La_112 ki_Mo_share kv_Mo_share kn_Mo kd_Mo_share hrc hrs hR
theorem cs_La_115 (E : gE p s m args c cc nL R_La V) {rm : Room} {mc ms : Nat} (hrc : rm.cells = mc) (hrs : rm.slots = ms) (hR : rm.frames + 1 ≤ R.frames ∧ 8 + (3 + 11) + rm.locals ≤ R.locals) : CallW R s args R_La R_Mo 115 y_Mo_cares c_Mo_cares 3 (some .int) (w_Mo_cares :: gt) rm mc ms 2 := cwuV E kc_Mo_cares kl_La_115 ki_Mo_cares kv_Mo_cares kn_Mo kd_Mo_cares hrc hrs hR
theorem cs_La_118 (E : gE p s m args c cc nL R_La V) {rm : Room} {mc ms : Nat} (hrc : rm.cells = mc) (hrs : rm.slots = ms) (hR : rm.frames + 1 ≤ R.frames ∧ 8 + (7 + 11) + rm.locals ≤ R.locals) : CallW R s args R_La R_Mo 118 y_Mo_most c_Mo_most 7 (some .int) (w_Mo_most :: gt) rm mc ms 2 := cwuV E kc_Mo_most kl_La_118 ki_Mo_most kv_Mo_most kn_Mo kd_Mo_most hrc hrs hR
theorem cs_La_121 (E : gE p s m args c cc nL R_La V) {rm : Room} {mc ms : Nat} (hrc : rm.cells = mc) (hrs : rm.slots = ms) (hR : rm.frames + 1 ≤ R.frames ∧ 8 + (6 + 11) + rm.locals ≤ R.locals) : CallW R s args R_La R_Mo 121 y_Mo_work c_Mo_work 6 (some .int) (w_Mo_work :: gt) rm mc ms 4 := cwuV E kc_Mo_work kl_La_121 ki_Mo_work kv_Mo_work kn_Mo kd_Mo_work hrc hrs hR
theorem cs_La_124 (E : gE p s m args c cc nL R_La V) {rm : Room} {mc ms : Nat} (hrc : rm.cells = mc) (hrs : rm.slots = ms) (hR : rm.frames + 1 ≤ R.frames ∧ 8 + (5 + 11) + rm.locals ≤ R.locals) : CallW R s args R_La R_Mo 124 y_Mo_join c_Mo_join 5 (some .int) (w_Mo_join :: gt) rm mc ms 3 := cwuV E kc_Mo_join kl_La_124 ki_Mo_join kv_Mo_join kn_Mo kd_Mo_join hrc hrs hR
theorem cs_La_128 (E : gE p s m args c cc nL R_La V) {rm : Room} {mc ms : Nat} (hrc : rm.cells = mc) (hrs : rm.slots = ms) (hR : rm.frames + 1 ≤ R.frames ∧ 8 + (5 + 11) + rm.locals ≤ R.locals) : CallW R s args R_La R_Mo 128 y_Mo_clash c_Mo_clash 5 (some .boolean) (w_Mo_clash :: gt) rm mc ms 3 := cwuV E kc_Mo_clash kl_La_128 ki_Mo_clash kv_Mo_clash kn_Mo kd_Mo_clash hrc hrs hR
theorem cs_La_131 (E : gE p s m args c cc nL R_La V) {rm : Room} {mc ms : Nat} (hrc : rm.cells = mc) (hrs : rm.slots = ms) (hR : rm.frames + 1 ≤ R.frames ∧ 8 + (4 + 11) + rm.locals ≤ R.locals) : CallW R s args R_La R_Mo 131 y_Mo_needs c_Mo_needs 4 (some .int) (w_Mo_needs :: gt) rm mc ms 2 := cwuV E kc_Mo_needs kl_La_131 ki_Mo_needs kv_Mo_needs kn_Mo kd_Mo_needs hrc hrs hR
theorem cs_La_132 (E : gE p s m args c cc nL R_La V) {rm : Room} {mc ms : Nat} (hrc : rm.cells = mc) (hrs : rm.slots = ms) (hR : rm.frames + 1 ≤ R.frames ∧ 8 + (1 + 11) + rm.locals ≤ R.locals) : CallW R s args R_La R_CY 132 y_CY_choose c_CY_choose 1 (some .int) (w_CY_choose :: gt) rm mc ms 0 := cwuV E kc_CY_choose kl_La_132 ki_CY_choose kv_CY_choose kn_CY kd_CY_choose hrc hrs hR
theorem cs_La_135 (E : gE p s m args c cc nL R_La V) {rm : Room} {mc ms : Nat} (hrc : rm.cells = mc) (hrs : rm.slots = ms) (hR : rm.frames + 1 ≤ R.frames ∧ 8 + (8 + 11) + rm.locals ≤ R.locals) : CallW R s args R_La R_Mo 135 y_Mo_choose c_Mo_choose 8 (some .int) (w_Mo_choose :: gt) rm mc ms 0 := cwuV E kc_Mo_choose kl_La_135 ki_Mo_choose kv_Mo_choose kn_Mo kd_Mo_choose hrc hrs hR
theorem cs_La_139 (E : gE p s m args c cc nL R_La V) {rm : Room} {mc ms : Nat} (hrc : rm.cells = mc) (hrs : rm.slots = ms) (hR : rm.frames + 1 ≤ R.frames ∧ 8 + (2 + 11) + rm.locals ≤ R.locals) : CallW R s args R_La R_Mo 139 y_Mo_chosen c_Mo_chosen 2 (some .boolean) (w_Mo_chosen :: gt) rm mc ms 1 := cwuV E kc_Mo_chosen kl_La_139 ki_Mo_chosen kv_Mo_chosen kn_Mo kd_Mo_chosen hrc hrs hR
theorem cs_La_142 (E : gE p s m args c cc nL R_La V) {rm : Room} {mc ms : Nat} (hrc : rm.cells = mc) (hrs : rm.slots = ms) (hR : rm.frames + 1 ≤ R.frames ∧ 8 + (2 + 11) + rm.locals ≤ R.locals) : CallW R s args R_La R_Mo 142 y_Mo_costs c_Mo_costs 2 (some .int) (w_Mo_costs :: gt) rm mc ms 1 := cwuV E kc_Mo_costs kl_La_142 ki_Mo_costs kv_Mo_costs kn_Mo kd_Mo_costs hrc hrs hR
theorem cs_La_143 (E : gE p s m args c cc nL R_La V) {rm : Room} {mc ms : Nat} (hrc : rm.cells = mc) (hrs : rm.slots = ms) (hR : rm.frames + 1 ≤ R.frames ∧ 8 + (3 + 11) + rm.locals ≤ R.locals) : CallW R s args R_La R_CY 143 y_CY_lacks c_CY_lacks 3 (some .int) (w_CY_lacks :: gt) rm mc ms 1 := cwuV E kc_CY_lacks kl_La_143 ki_CY_lacks kv_CY_lacks kn_CY kd_CY_lacks hrc hrs hR
theorem cs_La_146 (E : gE p s m args c cc nL R_La V) {rm : Room} {mc ms : Nat} (hrc : rm.cells = mc) (hrs : rm.slots = ms) (hR : rm.frames + 1 ≤ R.frames ∧ 8 + (3 + 11) + rm.locals ≤ R.locals) : CallW R s args R_La R_Mo 146 y_Mo_lacks c_Mo_lacks 3 (some .int) (w_Mo_lacks :: gt) rm mc ms 1 := cwuV E kc_Mo_lacks kl_La_146 ki_Mo_lacks kv_Mo_lacks kn_Mo kd_Mo_lacks hrc hrs hR
theorem cs_La_150 (E : gE p s m args c cc nL R_La V) {rm : Room} {mc ms : Nat} (hrc : rm.cells = mc) (hrs : rm.slots = ms) (hR : rm.frames + 1 ≤ R.frames ∧ 8 + (3 + 11) + rm.locals ≤ R.locals) : CallW R s args R_La R_Mo 150 y_Mo_money c_Mo_money 3 none (w_Mo_money :: gt) rm mc ms 2 := cwuV E kc_Mo_money kl_La_150 ki_Mo_money kv_Mo_money kn_Mo kd_Mo_money hrc hrs hR
theorem cs_La_153 (E : gE p s m args c cc nL R_La V) {rm : Room} {mc ms : Nat} (hrc : rm.cells = mc) (hrs : rm.slots = ms) (hR : rm.frames + 1 ≤ R.frames ∧ 8 + (2 + 11) + rm.locals ≤ R.locals) : CallW R s args R_La R_Mo 153 y_Mo_reserve c_Mo_reserve 2 (some .long) (w_Mo_reserve :: gt) rm mc ms 1 := cwuV E kc_Mo_reserve kl_La_153 ki_Mo_reserve kv_Mo_reserve kn_Mo kd_Mo_reserve hrc hrs hR
theorem cs_La_154 (E : gE p s m args c cc nL R_La V) {rm : Room} {mc ms : Nat} (hrc : rm.cells = mc) (hrs : rm.slots = ms) (hR : rm.frames + 1 ≤ R.frames ∧ 8 + (2 + 11) + rm.locals ≤ R.locals) : CallW R s args R_La R_CY 154 y_CY_shortIn c_CY_shortIn 2 (some .int) (w_CY_shortIn :: gt) rm mc ms 0 := cwuV E kc_CY_shortIn kl_La_154 ki_CY_shortIn kv_CY_shortIn kn_CY kd_CY_shortIn hrc hrs hR
theorem cs_La_157 (E : gE p s m args c cc nL R_La V) {rm : Room} {mc ms : Nat} (hrc : rm.cells = mc) (hrs : rm.slots = ms) (hR : rm.frames + 1 ≤ R.frames ∧ 8 + (2 + 11) + rm.locals ≤ R.locals) : CallW R s args R_La R_Mo 157 y_Mo_shortIn c_Mo_shortIn 2 (some .int) (w_Mo_shortIn :: gt) rm mc ms 0 := cwuV E kc_Mo_shortIn kl_La_157 ki_Mo_shortIn kv_Mo_shortIn kn_Mo kd_Mo_shortIn hrc hrs hR
theorem cs_La_160 (E : gE p s m args c cc nL R_La V) {rm : Room} {mc ms : Nat} (hrc : rm.cells = mc) (hrs : rm.slots = ms) (hR : rm.frames + 1 ≤ R.frames ∧ 8 + (4 + 11) + rm.locals ≤ R.locals) : CallW R s args R_La R_Mo 160 y_Mo_payment c_Mo_payment 4 (some .int) (w_Mo_payment :: gt) rm mc ms 3 := cwuV E kc_Mo_payment kl_La_160 ki_Mo_payment kv_Mo_payment kn_Mo kd_Mo_payment hrc hrs hR
theorem cs_La_163 (E : gE p s m args c cc nL R_La V) {rm : Room} {mc ms : Nat} (hrc : rm.cells = mc) (hrs : rm.slots = ms) (hR : rm.frames + 1 ≤ R.frames ∧ 8 + (5 + 11) + rm.locals ≤ R.locals) : CallW R s args R_La R_Mo 163 y_Mo_rest c_Mo_rest 5 (some .int) (w_Mo_rest :: gt) rm mc ms 4 := cwuV E kc_Mo_rest kl_La_163 ki_Mo_rest kv_Mo_rest kn_Mo kd_Mo_rest hrc hrs hR
theorem cs_Lo_10 (E : gE p s m args c cc nL R_Lo V) {rm : Room} {mc ms : Nat} (hrc : rm.cells = mc) (hrs : rm.slots = ms) (hR : rm.frames + 1 ≤ R.frames ∧ 8 + (3 + 11) + rm.locals ≤ R.locals) : va_CN R s args R_Lo 10 y_CY_isWithin R_CY c_CY_isWithin 3 (some .boolean) (w_CY_isWithin :: gt) rm mc ms 3 ∧ (Cond.static y_CY_isWithin).before args s = true ∧ True := cwuN E kc_CY_isWithin (by decide +kernel) ks_CY_isWithin kn_CY kd_CY_isWithin hrc hrs hR
theorem cs_Lo_18 (E : gE p s m args c cc nL R_Lo V) {rm : Room} {mc ms : Nat} (hrc : rm.cells = mc) (hrs : rm.slots = ms) (hR : rm.frames + 1 ≤ R.frames ∧ 8 + (4 + 11) + rm.locals ≤ R.locals) : CallB R s args R_Lo 18 y_Ma_maxJ c_Ma_maxJ 4 (some .long) (w_Ma_maxJ :: gt) rm mc ms 2 ∧ (Cond.static y_Ma_maxJ).before args s = true := cwuS E kc_Ma_maxJ kl_Lo_18 ks_Ma_maxJ kn_Ma kd_Ma_maxJ hrc hrs hR
theorem cs_Lo_24 (E : gE p s m args c cc nL R_Lo V) {rm : Room} {mc ms : Nat} (hrc : rm.cells = mc) (hrs : rm.slots = ms) (hR : rm.frames + 1 ≤ R.frames ∧ 8 + (10 + 11) + rm.locals ≤ R.locals) : CallB R s args R_Lo 24 y_Lo_restBehind c_Lo_restBehind 10 (some .long) (w_Lo_restBehind :: gt) rm mc ms 4 ∧ (Cond.static y_Lo_restBehind).before args s = true := cwuS E kc_Lo_restBehind kl_Lo_24 ks_Lo_restBehind kn_Lo kd_Lo_restBehind hrc hrs hR
theorem cs_Mo_64 (E : gE p s m args c cc nL R_Mo V) {rm : Room} {mc ms : Nat} (hrc : rm.cells = mc) (hrs : rm.slots = ms) (hR : rm.frames + 1 ≤ R.frames ∧ 8 + (6 + 11) + rm.locals ≤ R.locals) : CallB R s args R_Mo 64 y_Mo_within c_Mo_within 6 (some .boolean) (w_Mo_within :: gt) rm mc ms 3 ∧ (Cond.static y_Mo_within).before args s = true := cwuS E kc_Mo_within kl_Mo_64 ks_Mo_within kn_Mo kd_Mo_within hrc hrs hR
theorem cs_Mo_71 (E : gE p s m args c cc nL R_Mo V) {rm : Room} {mc ms : Nat} (hrc : rm.cells = mc) (hrs : rm.slots = ms) (hR : rm.frames + 1 ≤ R.frames ∧ 8 + (2 + 11) + rm.locals ≤ R.locals) : CallW R s args R_Mo R_Mo 71 y_Mo_isPart c_Mo_isPart 2 (some .boolean) (w_Mo_isPart :: gt) rm mc ms 1 := cwuV E kc_Mo_isPart kl_Mo_71 ki_Mo_isPart kv_Mo_isPart kn_Mo kd_Mo_isPart hrc hrs hR
theorem cs_Mo_78 (E : gE p s m args c cc nL R_Mo V) {rm : Room} {mc ms : Nat} (hrc : rm.cells = mc) (hrs : rm.slots = ms) (hR : rm.frames + 1 ≤ R.frames ∧ 8 + (2 + 11) + rm.locals ≤ R.locals) : CallW R s args R_Mo R_Mo 78 y_Mo_isYear c_Mo_isYear 2 (some .boolean) (w_Mo_isYear :: gt) rm mc ms 1 := cwuV E kc_Mo_isYear kl_Mo_78 ki_Mo_isYear kv_Mo_isYear kn_Mo kd_Mo_isYear hrc hrs hR
theorem cs_Mo_85 (E : gE p s m args c cc nL R_Mo V) {rm : Room} {mc ms : Nat} (hrc : rm.cells = mc) (hrs : rm.slots = ms) (hR : rm.frames + 1 ≤ R.frames ∧ 8 + (2 + 11) + rm.locals ≤ R.locals) : CallW R s args R_Mo R_Mo 85 y_Mo_refuses c_Mo_refuses 2 (some .boolean) (w_Mo_refuses :: gt) rm mc ms 1 := cwuV E kc_Mo_refuses kl_Mo_85 ki_Mo_refuses kv_Mo_refuses kn_Mo kd_Mo_refuses hrc hrs hR
theorem cs_Mo_94 (E : gE p s m args c cc nL R_Mo V) {rm : Room} {mc ms : Nat} (hrc : rm.cells = mc) (hrs : rm.slots = ms) (hR : rm.frames + 1 ≤ R.frames ∧ 8 + (3 + 11) + rm.locals ≤ R.locals) : CallW R s args R_Mo R_Mo 94 y_Mo_isState c_Mo_isState 3 (some .boolean) (w_Mo_isState :: gt) rm mc ms 2 := cwuV E kc_Mo_isState kl_Mo_94 ki_Mo_isState kv_Mo_isState kn_Mo kd_Mo_isState hrc hrs hR
theorem cs_Mo_100 (E : gE p s m args c cc nL R_Mo V) {rm : Room} {mc ms : Nat} (hrc : rm.cells = mc) (hrs : rm.slots = ms) (hR : rm.frames + 1 ≤ R.frames ∧ 8 + (5 + 11) + rm.locals ≤ R.locals) : CallW R s args R_Mo R_Mo 100 y_Mo_leaving c_Mo_leaving 5 (some .int) (w_Mo_leaving :: gt) rm mc ms 2 := cwuV E kc_Mo_leaving kl_Mo_100 ki_Mo_leaving kv_Mo_leaving kn_Mo kd_Mo_leaving hrc hrs hR
theorem cs_Mo_109 (E : gE p s m args c cc nL R_Mo V) {rm : Room} {mc ms : Nat} (hrc : rm.cells = mc) (hrs : rm.slots = ms) (hR : rm.frames + 1 ≤ R.frames ∧ 8 + (6 + 11) + rm.locals ≤ R.locals) : CallW R s args R_Mo R_Mo 109 y_Mo_begins c_Mo_begins 6 (some .int) (w_Mo_begins :: gt) rm mc ms 2 := cwuV E kc_Mo_begins kl_Mo_109 ki_Mo_begins kv_Mo_begins kn_Mo kd_Mo_begins hrc hrs hR
theorem cs_Mo_112 (E : gE p s m args c cc nL R_Mo V) {rm : Room} {mc ms : Nat} (hrc : rm.cells = mc) (hrs : rm.slots = ms) (hR : rm.frames + 1 ≤ R.frames ∧ 8 + (8 + 11) + rm.locals ≤ R.locals) : CallW R s args R_Mo R_Mo 112 y_Mo_learn c_Mo_learn 8 (some .long) (w_Mo_learn :: gt) rm mc ms 2 := cwuV E kc_Mo_learn kl_Mo_112 ki_Mo_learn kv_Mo_learn kn_Mo kd_Mo_learn hrc hrs hR
theorem cs_Mo_116 (E : gE p s m args c cc nL R_Mo V) {rm : Room} {mc ms : Nat} (hrc : rm.cells = mc) (hrs : rm.slots = ms) (hR : rm.frames + 1 ≤ R.frames ∧ 8 + (8 + 11) + rm.locals ≤ R.locals) : CallW R s args R_Mo R_Mo 116 y_Mo_careOf c_Mo_careOf 8 (some .long) (w_Mo_careOf :: gt) rm mc ms 2 := cwuV E kc_Mo_careOf kl_Mo_116 ki_Mo_careOf kv_Mo_careOf kn_Mo kd_Mo_careOf hrc hrs hR
theorem cs_Mo_121 (E : gE p s m args c cc nL R_Mo V) {rm : Room} {mc ms : Nat} (hrc : rm.cells = mc) (hrs : rm.slots = ms) (hR : rm.frames + 1 ≤ R.frames ∧ 8 + (2 + 11) + rm.locals ≤ R.locals) : CallW R s args R_Mo R_Mo 121 y_Mo_isWork c_Mo_isWork 2 (some .boolean) (w_Mo_isWork :: gt) rm mc ms 1 := cwuV E kc_Mo_isWork kl_Mo_121 ki_Mo_isWork kv_Mo_isWork kn_Mo kd_Mo_isWork hrc hrs hR
theorem cs_Mo_124 (E : gE p s m args c cc nL R_Mo V) {rm : Room} {mc ms : Nat} (hrc : rm.cells = mc) (hrs : rm.slots = ms) (hR : rm.frames + 1 ≤ R.frames ∧ 8 + (3 + 11) + rm.locals ≤ R.locals) : CallW R s args R_Mo R_Mo 124 y_Mo_areTwo c_Mo_areTwo 3 (some .boolean) (w_Mo_areTwo :: gt) rm mc ms 2 := cwuV E kc_Mo_areTwo kl_Mo_124 ki_Mo_areTwo kv_Mo_areTwo kn_Mo kd_Mo_areTwo hrc hrs hR
theorem cs_Mo_127 (E : gE p s m args c cc nL R_Mo V) {rm : Room} {mc ms : Nat} (hrc : rm.cells = mc) (hrs : rm.slots = ms) (hR : rm.frames + 1 ≤ R.frames ∧ 8 + (2 + 11) + rm.locals ≤ R.locals) : CallB R s args R_Mo 127 y_Mo_has c_Mo_has 2 (some .boolean) (w_Mo_has :: gt) rm mc ms 2 ∧ (Cond.static y_Mo_has).before args s = true := cwuS E kc_Mo_has kl_Mo_127 ks_Mo_has kn_Mo kd_Mo_has hrc hrs hR
theorem cs_Mo_134 (E : gE p s m args c cc nL R_Mo V) {rm : Room} {mc ms : Nat} (hrc : rm.cells = mc) (hrs : rm.slots = ms) (hR : rm.frames + 1 ≤ R.frames ∧ 8 + (7 + 11) + rm.locals ≤ R.locals) : CallW R s args R_Mo R_Mo 134 y_Mo_costOf c_Mo_costOf 7 (some .long) (w_Mo_costOf :: gt) rm mc ms 2 := cwuV E kc_Mo_costOf kl_Mo_134 ki_Mo_costOf kv_Mo_costOf kn_Mo kd_Mo_costOf hrc hrs hR
theorem cs_Mo_137 (E : gE p s m args c cc nL R_Mo V) {rm : Room} {mc ms : Nat} (hrc : rm.cells = mc) (hrs : rm.slots = ms) (hR : rm.frames + 1 ≤ R.frames ∧ 8 + (5 + 11) + rm.locals ≤ R.locals) : CallW R s args R_Mo R_Mo 137 y_Mo_goesTogether c_Mo_goesTogether 5 (some .boolean) (w_Mo_goesTogether :: gt) rm mc ms 1 := cwuV E kc_Mo_goesTogether kl_Mo_137 ki_Mo_goesTogether kv_Mo_goesTogether kn_Mo kd_Mo_goesTogether hrc hrs hR
theorem cs_Mo_140 (E : gE p s m args c cc nL R_Mo V) {rm : Room} {mc ms : Nat} (hrc : rm.cells = mc) (hrs : rm.slots = ms) (hR : rm.frames + 1 ≤ R.frames ∧ 8 + (7 + 11) + rm.locals ≤ R.locals) : CallW R s args R_Mo R_Mo 140 y_Mo_lackOf c_Mo_lackOf 7 (some .long) (w_Mo_lackOf :: gt) rm mc ms 1 := cwuV E kc_Mo_lackOf kl_Mo_140 ki_Mo_lackOf kv_Mo_lackOf kn_Mo kd_Mo_lackOf hrc hrs hR
theorem cs_Mo_150 (E : gE p s m args c cc nL R_Mo V) {rm : Room} {mc ms : Nat} (hrc : rm.cells = mc) (hrs : rm.slots = ms) (hR : rm.frames + 1 ≤ R.frames ∧ 8 + (6 + 11) + rm.locals ≤ R.locals) : CallW R s args R_Mo R_Mo 150 y_Mo_reserveOf c_Mo_reserveOf 6 (some .long) (w_Mo_reserveOf :: gt) rm mc ms 1 := cwuV E kc_Mo_reserveOf kl_Mo_150 ki_Mo_reserveOf kv_Mo_reserveOf kn_Mo kd_Mo_reserveOf hrc hrs hR
theorem cs_Mo_159 (E : gE p s m args c cc nL R_Mo V) {rm : Room} {mc ms : Nat} (hrc : rm.cells = mc) (hrs : rm.slots = ms) (hR : rm.frames + 1 ≤ R.frames ∧ 8 + (9 + 11) + rm.locals ≤ R.locals) : CallB R s args R_Mo 159 y_Mo_restOf c_Mo_restOf 9 (some .long) (w_Mo_restOf :: gt) rm mc ms 4 ∧ (Cond.static y_Mo_restOf).before args s = true := cwuS E kc_Mo_restOf kl_Mo_159 ks_Mo_restOf kn_Mo kd_Mo_restOf hrc hrs hR
theorem cs_Mo_165 (E : gE p s m args c cc nL R_Mo V) {rm : Room} {mc ms : Nat} (hrc : rm.cells = mc) (hrs : rm.slots = ms) (hR : rm.frames + 1 ≤ R.frames ∧ 8 + (3 + 11) + rm.locals ≤ R.locals) : CallB R s args R_Mo 165 y_Mo_isLoan c_Mo_isLoan 3 (some .boolean) (w_Mo_isLoan :: gt) rm mc ms 3 ∧ (Cond.static y_Mo_isLoan).before args s = true := cwuS E kc_Mo_isLoan kl_Mo_165 ks_Mo_isLoan kn_Mo kd_Mo_isLoan hrc hrs hR
theorem cs_Mo_169 (E : gE p s m args c cc nL R_Mo V) {rm : Room} {mc ms : Nat} (hrc : rm.cells = mc) (hrs : rm.slots = ms) (hR : rm.frames + 1 ≤ R.frames ∧ 8 + (10 + 11) + rm.locals ≤ R.locals) : CallB R s args R_Mo 169 y_Mo_paymentOf c_Mo_paymentOf 10 (some .long) (w_Mo_paymentOf :: gt) rm mc ms 3 ∧ (Cond.static y_Mo_paymentOf).before args s = true := cwuS E kc_Mo_paymentOf kl_Mo_169 ks_Mo_paymentOf kn_Mo kd_Mo_paymentOf hrc hrs hR
theorem cs_Pa_38 (E : gE p s m args c cc nL R_Pa V) {rm : Room} {mc ms : Nat} (hrc : rm.cells = mc) (hrs : rm.slots = ms) (hR : rm.frames + 1 ≤ R.frames ∧ 8 + (2 + 11) + rm.locals ≤ R.locals) : CallW R s args R_Pa R_Pa 38 y_Pa_has c_Pa_has 2 (some .boolean) (w_Pa_has :: gt) rm mc ms 1 := cwuV E kc_Pa_has kl_Pa_38 ki_Pa_has kv_Pa_has kn_Pa kd_Pa_has hrc hrs hR
theorem cs_Pa_42 (E : gE p s m args c cc nL R_Pa V) {rm : Room} {mc ms : Nat} (hrc : rm.cells = mc) (hrs : rm.slots = ms) (hR : rm.frames + 1 ≤ R.frames ∧ 8 + (5 + 11) + rm.locals ≤ R.locals) : CallW R s args R_Pa R_Pa 42 y_Pa_setGoing c_Pa_setGoing 5 none (w_Pa_setGoing :: gt) rm mc ms 4 := cwuV E kc_Pa_setGoing kl_Pa_42 ki_Pa_setGoing kv_Pa_setGoing kn_Pa kd_Pa_setGoing hrc hrs hR
theorem cs_Pa_46 (E : gE p s m args c cc nL R_Pa V) {rm : Room} {mc ms : Nat} (hrc : rm.cells = mc) (hrs : rm.slots = ms) (hR : rm.frames + 1 ≤ R.frames ∧ 8 + (3 + 11) + rm.locals ≤ R.locals) : CallW R s args R_Pa R_Pa 46 y_Pa_enter c_Pa_enter 3 none (w_Pa_enter :: gt) rm mc ms 2 := cwuV E kc_Pa_enter kl_Pa_46 ki_Pa_enter kv_Pa_enter kn_Pa kd_Pa_enter hrc hrs hR
theorem cs_Pa_50 (E : gE p s m args c cc nL R_Pa V) {rm : Room} {mc ms : Nat} (hrc : rm.cells = mc) (hrs : rm.slots = ms) (hR : rm.frames + 1 ≤ R.frames ∧ 8 + (2 + 11) + rm.locals ≤ R.locals) : va_CN R s args R_Pa 50 y_CY_holds R_CY c_CY_holds 2 (some .boolean) (w_CY_holds :: gt) rm mc ms 2 ∧ (Cond.static y_CY_holds).before args s = true ∧ True := cwuN E kc_CY_holds (by decide +kernel) ks_CY_holds kn_CY kd_CY_holds hrc hrs hR
theorem cs_Pa_56 (E : gE p s m args c cc nL R_Pa V) {rm : Room} {mc ms : Nat} (hrc : rm.cells = mc) (hrs : rm.slots = ms) (hR : rm.frames + 1 ≤ R.frames ∧ 8 + (2 + 11) + rm.locals ≤ R.locals) : CallW R s args R_Pa R_Pa 56 y_Pa_begin c_Pa_begin 2 none (w_Pa_begin :: gt) rm mc ms 1 := cwuV E kc_Pa_begin kl_Pa_56 ki_Pa_begin kv_Pa_begin kn_Pa kd_Pa_begin hrc hrs hR
theorem cs_Pa_60 (E : gE p s m args c cc nL R_Pa V) {rm : Room} {mc ms : Nat} (hrc : rm.cells = mc) (hrs : rm.slots = ms) (hR : rm.frames + 1 ≤ R.frames ∧ 8 + (6 + 11) + rm.locals ≤ R.locals) : CallW R s args R_Pa R_Pa 60 y_Pa_wear c_Pa_wear 6 none (w_Pa_wear :: gt) rm mc ms 1 := cwuV E kc_Pa_wear kl_Pa_60 ki_Pa_wear kv_Pa_wear kn_Pa kd_Pa_wear hrc hrs hR
theorem cs_Pa_63 (E : gE p s m args c cc nL R_Pa V) {rm : Room} {mc ms : Nat} (hrc : rm.cells = mc) (hrs : rm.slots = ms) (hR : rm.frames + 1 ≤ R.frames ∧ 8 + (5 + 11) + rm.locals ≤ R.locals) : CallB R s args R_Pa 63 y_Ar_fillJ c_Ar_fillJ 5 none (w_Ar_fillJ :: gt) rm mc ms 2 ∧ (Cond.static y_Ar_fillJ).before args s = true := cwuS E kc_Ar_fillJ kl_Pa_63 ks_Ar_fillJ kn_Ar kd_Ar_fillJ hrc hrs hR
theorem cs_Pa_72 (E : gE p s m args c cc nL R_Pa V) {rm : Room} {mc ms : Nat} (hrc : rm.cells = mc) (hrs : rm.slots = ms) (hR : rm.frames + 1 ≤ R.frames ∧ 8 + (4 + 11) + rm.locals ≤ R.locals) : CallW R s args R_Pa R_Pa 72 y_Pa_going c_Pa_going 4 (some .int) (w_Pa_going :: gt) rm mc ms 3 := cwuV E kc_Pa_going kl_Pa_72 ki_Pa_going kv_Pa_going kn_Pa kd_Pa_going hrc hrs hR
theorem cs_Wo_48 (E : gE p s m args c cc nL R_Wo V) {rm : Room} {mc ms : Nat} (hrc : rm.cells = mc) (hrs : rm.slots = ms) (hR : rm.frames + 1 ≤ R.frames ∧ 8 + (2 + 11) + rm.locals ≤ R.locals) : va_CN R s args R_Wo 48 y_CY_holds R_CY c_CY_holds 2 (some .boolean) (w_CY_holds :: gt) rm mc ms 2 ∧ (Cond.static y_CY_holds).before args s = true ∧ True := cwuN E kc_CY_holds (by decide +kernel) ks_CY_holds kn_CY kd_CY_holds hrc hrs hR
theorem cs_Wo_52 (E : gE p s m args c cc nL R_Wo V) {rm : Room} {mc ms : Nat} (hrc : rm.cells = mc) (hrs : rm.slots = ms) (hR : rm.frames + 1 ≤ R.frames ∧ 8 + (4 + 11) + rm.locals ≤ R.locals) : CallW R s args R_Wo R_Wo 52 y_Wo_lacksNeeded c_Wo_lacksNeeded 4 (some .boolean) (w_Wo_lacksNeeded :: gt) rm mc ms 2 := cwuV E kc_Wo_lacksNeeded kl_Wo_52 ki_Wo_lacksNeeded kv_Wo_lacksNeeded kn_Wo kd_Wo_lacksNeeded hrc hrs hR
theorem cs_Wo_55 (E : gE p s m args c cc nL R_Wo V) {rm : Room} {mc ms : Nat} (hrc : rm.cells = mc) (hrs : rm.slots = ms) (hR : rm.frames + 1 ≤ R.frames ∧ 8 + (4 + 11) + rm.locals ≤ R.locals) : CallB R s args R_Wo 55 y_Ar_fillI c_Ar_fillI 4 none (w_Ar_fillI :: gt) rm mc ms 2 ∧ (Cond.static y_Ar_fillI).before args s = true := cwuS E kc_Ar_fillI kl_Wo_55 ks_Ar_fillI kn_Ar kd_Ar_fillI hrc hrs hR
theorem cs_Wo_61 (E : gE p s m args c cc nL R_Wo V) {rm : Room} {mc ms : Nat} (hrc : rm.cells = mc) (hrs : rm.slots = ms) (hR : rm.frames + 1 ≤ R.frames ∧ 8 + (3 + 11) + rm.locals ≤ R.locals) : CallW R s args R_Wo R_Ye 61 y_Ye_costIn c_Ye_costIn 3 (some .int) (w_Ye_costIn :: gt) rm mc ms 2 := cwuV E kc_Ye_costIn kl_Wo_61 ki_Ye_costIn kv_Ye_costIn kn_Ye kd_Ye_costIn hrc hrs hR
theorem cs_Wo_65 (E : gE p s m args c cc nL R_Wo V) {rm : Room} {mc ms : Nat} (hrc : rm.cells = mc) (hrs : rm.slots = ms) (hR : rm.frames + 1 ≤ R.frames ∧ 8 + (5 + 11) + rm.locals ≤ R.locals) : CallW R s args R_Wo R_Wo 65 y_Wo_savedWithEarlier c_Wo_savedWithEarlier 5 (some .int) (w_Wo_savedWithEarlier :: gt) rm mc ms 2 := cwuV E kc_Wo_savedWithEarlier kl_Wo_65 ki_Wo_savedWithEarlier kv_Wo_savedWithEarlier kn_Wo kd_Wo_savedWithEarlier hrc hrs hR
theorem cs_Wo_69 (E : gE p s m args c cc nL R_Wo V) {rm : Room} {mc ms : Nat} (hrc : rm.cells = mc) (hrs : rm.slots = ms) (hR : rm.frames + 1 ≤ R.frames ∧ 8 + (2 + 11) + rm.locals ≤ R.locals) : CallB R s args R_Wo 69 y_Ma_maxI c_Ma_maxI 2 (some .int) (w_Ma_maxI :: gt) rm mc ms 2 ∧ (Cond.static y_Ma_maxI).before args s = true := cwuS E kc_Ma_maxI kl_Wo_69 ks_Ma_maxI kn_Ma kd_Ma_maxI hrc hrs hR
theorem cs_Wo_77 (E : gE p s m args c cc nL R_Wo V) {rm : Room} {mc ms : Nat} (hrc : rm.cells = mc) (hrs : rm.slots = ms) (hR : rm.frames + 1 ≤ R.frames ∧ 8 + (1 + 11) + rm.locals ≤ R.locals) : CallW R s args R_Wo R_Wo 77 y_Wo_all c_Wo_all 1 (some .int) (w_Wo_all :: gt) rm mc ms 0 := cwuV E kc_Wo_all kl_Wo_77 ki_Wo_all kv_Wo_all kn_Wo kd_Wo_all hrc hrs hR
theorem cs_Wo_81 (E : gE p s m args c cc nL R_Wo V) {rm : Room} {mc ms : Nat} (hrc : rm.cells = mc) (hrs : rm.slots = ms) (hR : rm.frames + 1 ≤ R.frames ∧ 8 + (4 + 11) + rm.locals ≤ R.locals) : CallW R s args R_Wo R_Wo 81 y_Wo_worthOf c_Wo_worthOf 4 (some .int) (w_Wo_worthOf :: gt) rm mc ms 1 := cwuV E kc_Wo_worthOf kl_Wo_81 ki_Wo_worthOf kv_Wo_worthOf kn_Wo kd_Wo_worthOf hrc hrs hR
theorem cs_Wo_85 (E : gE p s m args c cc nL R_Wo V) {rm : Room} {mc ms : Nat} (hrc : rm.cells = mc) (hrs : rm.slots = ms) (hR : rm.frames + 1 ≤ R.frames ∧ 8 + (3 + 11) + rm.locals ≤ R.locals) : CallW R s args R_Wo R_Wo 85 y_Wo_agree c_Wo_agree 3 (some .boolean) (w_Wo_agree :: gt) rm mc ms 1 := cwuV E kc_Wo_agree kl_Wo_85 ki_Wo_agree kv_Wo_agree kn_Wo kd_Wo_agree hrc hrs hR
theorem cs_Wo_89 (E : gE p s m args c cc nL R_Wo V) {rm : Room} {mc ms : Nat} (hrc : rm.cells = mc) (hrs : rm.slots = ms) (hR : rm.frames + 1 ≤ R.frames ∧ 8 + (4 + 11) + rm.locals ≤ R.locals) : CallW R s args R_Wo R_Wo 89 y_Wo_spend c_Wo_spend 4 none (w_Wo_spend :: gt) rm mc ms 1 := cwuV E kc_Wo_spend kl_Wo_89 ki_Wo_spend kv_Wo_spend kn_Wo kd_Wo_spend hrc hrs hR
theorem cs_Wo_93 (E : gE p s m args c cc nL R_Wo V) {rm : Room} {mc ms : Nat} (hrc : rm.cells = mc) (hrs : rm.slots = ms) (hR : rm.frames + 1 ≤ R.frames ∧ 8 + (3 + 11) + rm.locals ≤ R.locals) : CallW R s args R_Wo R_Wo 93 y_Wo_spentInAll c_Wo_spentInAll 3 (some .int) (w_Wo_spentInAll :: gt) rm mc ms 0 := cwuV E kc_Wo_spentInAll kl_Wo_93 ki_Wo_spentInAll kv_Wo_spentInAll kn_Wo kd_Wo_spentInAll hrc hrs hR
theorem cs_Wo_96 (E : gE p s m args c cc nL R_Wo V) {rm : Room} {mc ms : Nat} (hrc : rm.cells = mc) (hrs : rm.slots = ms) (hR : rm.frames + 1 ≤ R.frames ∧ 8 + (3 + 11) + rm.locals ≤ R.locals) : CallW R s args R_Wo R_Wo 96 y_Wo_spentOverBudgets c_Wo_spentOverBudgets 3 (some .int) (w_Wo_spentOverBudgets :: gt) rm mc ms 0 := cwuV E kc_Wo_spentOverBudgets kl_Wo_96 ki_Wo_spentOverBudgets kv_Wo_spentOverBudgets kn_Wo kd_Wo_spentOverBudgets hrc hrs hR
theorem cs_Ye_20 (E : gE p s m args c cc nL R_Ye V) {rm : Room} {mc ms : Nat} (hrc : rm.cells = mc) (hrs : rm.slots = ms) (hR : rm.frames + 1 ≤ R.frames ∧ 8 + (4 + 11) + rm.locals ≤ R.locals) : CallB R s args R_Ye 20 y_Ar_fillI c_Ar_fillI 4 none (w_Ar_fillI :: gt) rm mc ms 2 ∧ (Cond.static y_Ar_fillI).before args s = true := cwuS E kc_Ar_fillI kl_Ye_20 ks_Ar_fillI kn_Ar kd_Ar_fillI hrc hrs hR
end ST
end
section
/-! Numbers and bits; the class's rows of arrays of arrays. -/
theorem nI_c1 : nI 1 = 1 := rfl
def inB (x a b : Int32) : Bool := !decide (x < a) && !decide (b < x)
def inR (x n : Int32) : Bool := !decide (x < 0) && !decide (n ≤ x)
theorem inR_iff {x : Int32} {n : Nat} (hn : n < 2 ^ 31) : inR x (nI n) = true ↔ ∃ j, j < n ∧ x = nI j := by
  constructor
  · intro h
    simp only [inR, Bool.and_eq_true, Bool.not_eq_true', decide_eq_false_iff_not] at h
    rcases pk_ix x hn with h1 | h1 | h1
    · exact absurd h1 h.1
    · exact absurd h1 h.2
    · exact h1
  · rintro ⟨j, hj, rfl⟩
    simp only [inR, Bool.and_eq_true, Bool.not_eq_true', decide_eq_false_iff_not]
    exact ⟨nI_pos (by omega), nI_ge hj hn⟩
theorem sh_s : ∀ n, n < 32 → ((nI n &&& 31).toBitVec.smod 32).toNat = n := by decide +kernel
theorem nI_bv (n : Nat) : (nI n).toBitVec = BitVec.ofNat 32 n := rfl
theorem i32_ext {a b : Int32} (h : a.toBitVec = b.toBitVec) : a = b := Int32.toBitVec_inj.mp h
theorem nI_or (a b : Nat) : nI a ||| nI b = nI (a ||| b) := i32_ext (by simp [nI_bv, BitVec.ofNat_or])
theorem nI_and (a b : Nat) : nI a &&& nI b = nI (a &&& b) := i32_ext (by simp [nI_bv, BitVec.ofNat_and])
theorem nI_xor (a b : Nat) : nI a ^^^ nI b = nI (a ^^^ b) := i32_ext (by simp [nI_bv, BitVec.ofNat_xor])
theorem nI_bit {S b : Nat} (hS : S < 2 ^ 31) (hb : b < 31) : nI S >>> (nI b &&& 31) = nI (S / 2 ^ b) := pk_shrN hS _ b (sh_s b (by omega))
theorem nI_one {S : Nat} (hS : S < 2 ^ 31) : nI S &&& nI 1 = nI (S % 2) := by
  have := pk_andN (n := S) (by omega) (m := nI 1) 1 (by decide)
  simpa using this
theorem nI_pow {b : Nat} (hb : b < 31) : nI 1 <<< (nI b &&& 31) = nI (2 ^ b) := by
  have h : 2 ^ b ≤ 2 ^ 30 := Nat.pow_le_pow_right (by decide) (by omega)
  have := pk_shlN (n := 1) (nI b &&& 31) b (sh_s b (by omega)) (by omega)
  rw [this, Nat.one_mul]
/-- the set S with b in it, or without -/
def sB (S b : Nat) (on : Bool) : Nat := if on then S ||| 2 ^ b else (S ||| 2 ^ b) ^^^ 2 ^ b
theorem nI_clr (S b : Nat) : nI S &&& (nI (2 ^ b) ^^^ oN none) = nI ((S ||| 2 ^ b) ^^^ 2 ^ b) := by
  rw [← nI_xor, ← nI_or]
  apply i32_ext
  have h1 : (oN none).toBitVec = BitVec.allOnes 32 := by decide
  simp only [Int32.toBitVec_and, Int32.toBitVec_xor, Int32.toBitVec_or, h1, BitVec.xor_allOnes]
  ext i hi
  simp [hi]
  cases (nI S).toBitVec[i] <;> cases (nI (2 ^ b)).toBitVec[i] <;> rfl
theorem tB (S b : Nat) : S.testBit b = decide (S / 2 ^ b % 2 = 1) := Nat.testBit_eq_decide_div_mod_eq
theorem nI_subI (a b : Nat) : nI a - nI b = iI ((a : Int) - (b : Int)) := by rw [nI_iI, nI_iI, iI_sub]
theorem iI_addN (z : Int) (n : Nat) : iI z + nI n = iI (z + ((n : Nat) : Int)) := by rw [nI_iI, iI_add]
theorem iI_toInt {z : Int} (h1 : -2147483648 ≤ z) (h2 : z < 2147483648) : (iI z).toInt = z := by
  simp only [iI]; rw [Int32.toInt_ofInt]; simp [Int.bmod]; omega
theorem lI_toInt {z : Int} (h1 : -9223372036854775808 ≤ z) (h2 : z < 9223372036854775808) : (lI z).toInt = z := by
  simp only [lI]; rw [Int64.toInt_ofInt]; simp [Int.bmod]; omega
theorem iI_l {z : Int} (h1 : -2147483648 ≤ z) (h2 : z < 2147483648) : (iI z).toInt64 = lI z := by
  apply Int64.toInt.inj
  rw [Int32.toInt_toInt64, iI_toInt h1 h2, lI_toInt (by omega) (by omega)]
theorem lI_i (z : Int) : (lI z).toInt32 = iI z := by simp [lI, iI, Int64.toInt32_ofInt]
def mUp (M : Nat → Nat → Nat) (i j v : Nat) : Nat → Nat → Nat := va_up M i (va_up (M i) j v)
theorem aN_up (V : gV) (n : Nat) (M : Nat → Nat → Nat) (i : Nat) (f : Nat → Nat) : va_up (fun j => aN V n (M j)) i (aN V n f) = fun j => aN V n (va_up M i f j) := by
  funext j; by_cases h : j = i
  · subst h; rw [va_up_self, va_up_self]
  · rw [va_up_ne _ _ h, va_up_ne _ _ h]
section WCR
variable {V : gV} {ad r1 r2 r3 : Nat → Nat} {nY : Nat} {ix bu : Nat → Nat} {np : Nat} {st sr : Nat → Nat} {sx tk : Nat → Nat → Nat} {rn sh sn : Nat → Nat} {yw nw : Nat} {yo ce wo : Nat → Nat} {po ne : Nat → Option Nat} {cs : Nat → Nat} {sv : Nat → Nat → Nat} {mk : Nat} {sp rs : Nat → Int} {bg dp : Nat} {i : Nat} {f : Nat → Nat}
theorem wC_g1 (h : i < 12) : (wC V ad r1 r2 r3 nY ix bu np st sr sx tk rn sh sn yw nw yo ce wo po ne cs sv mk sp rs bg dp)[22 + i]? = some (r1 i, aN V 16 (sx i)) := gpl_get (g := fun i => aN V 16 (sx i)) rfl h
theorem wC_g2 (h : i < 12) : (wC V ad r1 r2 r3 nY ix bu np st sr sx tk rn sh sn yw nw yo ce wo po ne cs sv mk sp rs bg dp)[34 + i]? = some (r2 i, aN V 4 (tk i)) := gpl2_get (g := fun i => aN V 4 (tk i)) (by rw [gpool_len]; rfl) h
theorem wC_g3 (h : i < 10) : (wC V ad r1 r2 r3 nY ix bu np st sr sx tk rn sh sn yw nw yo ce wo po ne cs sv mk sp rs bg dp)[46 + i]? = some (r3 i, aN V 10 (sv i)) := gpl3_get (g := fun i => aN V 10 (sv i)) (by rw [gpool_len, gpool_len]; rfl) h
theorem wC_s1 (h : i < 12) : (wC V ad r1 r2 r3 nY ix bu np st sr sx tk rn sh sn yw nw yo ce wo po ne cs sv mk sp rs bg dp).set (22 + i) (r1 i, aN V 16 f) = wC V ad r1 r2 r3 nY ix bu np st sr (va_up sx i f) tk rn sh sn yw nw yo ce wo po ne cs sv mk sp rs bg dp := by
  unfold wC; rw [gpl_set (k := 22) rfl h, aN_up]
theorem wC_s2 (h : i < 12) : (wC V ad r1 r2 r3 nY ix bu np st sr sx tk rn sh sn yw nw yo ce wo po ne cs sv mk sp rs bg dp).set (34 + i) (r2 i, aN V 4 f) = wC V ad r1 r2 r3 nY ix bu np st sr sx (va_up tk i f) rn sh sn yw nw yo ce wo po ne cs sv mk sp rs bg dp := by
  unfold wC; rw [gpl2_set (k := 34) (by rw [gpool_len]; rfl) h, aN_up]
theorem wC_s3 (h : i < 10) : (wC V ad r1 r2 r3 nY ix bu np st sr sx tk rn sh sn yw nw yo ce wo po ne cs sv mk sp rs bg dp).set (46 + i) (r3 i, aN V 10 f) = wC V ad r1 r2 r3 nY ix bu np st sr sx tk rn sh sn yw nw yo ce wo po ne cs (va_up sv i f) mk sp rs bg dp := by
  unfold wC; rw [gpl3_set (k := 46) (by rw [gpool_len, gpool_len]; rfl) h, aN_up]
end WCR
/-- a loop: what holds at its head for the values a holds there again, and the measure falls -/
theorem gloop {p : Program} {l : Launch} {e : Env} {R : Room} {s : State} {m : MethodId} {args : Array Value} {below : List Frame} {meth : Method} {c : Code} {nL : Nat} {Q : State → Prop} {cells slots pc : Nat} {st : List Value} {α : Type} (om : α → Heap → List Loc → Prop) (lv : α → List (Nat × Value)) (I : α → Prop) (μ : α → Nat) (a0 : α) (h0 : I a0)
    (step : ∀ a, I a → (∀ b, I b → μ b < μ a → gg p l e R s m args below meth c nL Q cells slots (om b) (lv b) pc st) → gg p l e R s m args below meth c nL Q cells slots (om a) (lv a) pc st) : gg p l e R s m args below meth c nL Q cells slots (om a0) (lv a0) pc st := by
  have key : ∀ (n : Nat) (a : α), I a → μ a < n → gg p l e R s m args below meth c nL Q cells slots (om a) (lv a) pc st := by
    intro n
    induction n with
    | zero => intro a _ h; exact absurd h (Nat.not_lt_zero _)
    | succ n ih => intro a ha h; exact step a ha (fun b hb hlt => ih b hb (by omega))
  exact key (μ a0 + 1) a0 h0 (Nat.lt_succ_self _)
/-- f 0 and so on up to f (n - 1) -/
def sumN (f : Nat → Nat) : Nat → Nat
  | 0 => 0
  | n + 1 => sumN f n + f n
def sumZ (f : Nat → Int) : Nat → Int
  | 0 => 0
  | n + 1 => sumZ f n + f n
end
section
set_option maxHeartbeats 4000000 in
set_option maxRecDepth 100000 in
theorem C_CY_isWithin (l : Launch) {V : gV} {w : va_W} (x a b : Int32) : mPi l y_CY_isWithin (w_CY_isWithin :: gt) rm_CY_isWithin V (w  ) [.int x, .int a, .int b] (bI (inB x a b)) := by
  refine gMet (V := V) (As := [.int x, .int a, .int b]) (cc := c_CY_isWithin) (maxL := 3) (ret := (some .boolean)) (by decide) rfl (Nat.le_of_ble_eq_true rfl) (fun a U h => ⟨h.1, h.2.2⟩) ?_
  intro p e s m below meth c E hr hlk hnm hv
  have hO := gO_r (locs1 := []) (ws := w  ) hv.2.1
  refine g_iload_n E d_CY_isWithin_0 rfl 0 rfl ?_
  refine g_iload_n E d_CY_isWithin_1 rfl 1 rfl ?_
  refine g_icmp_lt E 14 d_CY_isWithin_2 (by decide) (fun h1 => ?_) (fun h1 => ?_)
  · refine g_iconst (v := nI 0) E d_CY_isWithin_14 (by decide) ?_
    exact g_zret E hr hlk d_CY_isWithin_15 (Or.inl rfl) (gq_i (by simp [bI, nI_0, nI_c1, inB, h1]))
  · refine g_iload_n E d_CY_isWithin_5 rfl 0 rfl ?_
    refine g_iload_n E d_CY_isWithin_6 rfl 2 rfl ?_
    refine g_icmp_gt E 14 d_CY_isWithin_7 (by decide) (fun h2 => ?_) (fun h2 => ?_)
    · refine g_iconst (v := nI 0) E d_CY_isWithin_14 (by decide) ?_
      exact g_zret E hr hlk d_CY_isWithin_15 (Or.inl rfl) (gq_i (by simp [bI, nI_0, nI_c1, inB, h1, h2]))
    · refine g_iconst (v := nI 1) E d_CY_isWithin_10 (by decide) ?_
      refine g_goto E 15 d_CY_isWithin_11 (by decide) ?_
      exact g_zret E hr hlk d_CY_isWithin_15 (Or.inr rfl) (gq_i (by simp [bI, nI_0, nI_c1, inB, h1, h2]))

set_option maxHeartbeats 4000000 in
set_option maxRecDepth 100000 in
theorem C_CY_holds (l : Launch) {V : gV} {w : va_W} (S b : Nat) (hS : S < 2 ^ 31) (hb : b < 31) : mPi l y_CY_holds (w_CY_holds :: gt) rm_CY_holds V (w  ) [.int (nI S), .int (nI b)] (bI (S.testBit b)) := by
  refine gMet (V := V) (As := [.int (nI S), .int (nI b)]) (cc := c_CY_holds) (maxL := 2) (ret := (some .boolean)) (by decide) rfl (Nat.le_of_ble_eq_true rfl) (fun a U h => ⟨h.1, h.2.2⟩) ?_
  intro p e s m below meth c E hr hlk hnm hv
  have hO := gO_r (locs1 := []) (ws := w  ) hv.2.1
  have hq : S / 2 ^ b < 2 ^ 31 := Nat.lt_of_le_of_lt (Nat.div_le_self _ _) hS
  refine g_iload_n E d_CY_holds_0 rfl 0 rfl ?_
  refine g_iload_n E d_CY_holds_1 rfl 1 rfl ?_
  refine g_ishr E d_CY_holds_2 ?_
  refine g_topi (nI_bit hS hb) ?_
  refine g_iconst (v := nI 1) E d_CY_holds_3 (by decide) ?_
  refine g_iand E d_CY_holds_4 ?_
  refine g_topi (nI_one hq) ?_
  refine g_nif_eq E 12 d_CY_holds_5 (by decide) (by omega) (fun h1 => ?_) (fun h1 => ?_)
  · refine g_iconst (v := nI 0) E d_CY_holds_12 (by decide) ?_
    exact g_zret E hr hlk d_CY_holds_13 (Or.inl rfl) (gq_i (by rw [tB]; simp [bI, nI_0, nI_c1]; omega))
  · refine g_iconst (v := nI 1) E d_CY_holds_8 (by decide) ?_
    refine g_goto E 13 d_CY_holds_9 (by decide) ?_
    exact g_zret E hr hlk d_CY_holds_13 (Or.inr rfl) (gq_i (by rw [tB]; simp [bI, nI_0, nI_c1]; omega))

set_option maxHeartbeats 4000000 in
set_option maxRecDepth 100000 in
theorem C_CY_withBit (l : Launch) {V : gV} {w : va_W} (S b : Nat) (q : Bool) (hb : b < 31) : mPi l y_CY_withBit (w_CY_withBit :: gt) rm_CY_withBit V (w  ) [.int (nI S), .int (nI b), .int (bI q)] (nI (sB S b q)) := by
  refine gMet (V := V) (As := [.int (nI S), .int (nI b), .int (bI q)]) (cc := c_CY_withBit) (maxL := 3) (ret := (some .int)) (by decide) rfl (Nat.le_of_ble_eq_true rfl) (fun a U h => ⟨h.1, h.2.2⟩) ?_
  intro p e s m below meth c E hr hlk hnm hv
  have hO := gO_r (locs1 := []) (ws := w  ) hv.2.1
  refine g_iload_n E d_CY_withBit_0 rfl 2 rfl ?_
  refine g_bif_eq E 12 d_CY_withBit_1 (by decide) (fun h1 => ?_) (fun h1 => ?_)
  · refine g_iload_n E d_CY_withBit_12 rfl 0 rfl ?_
    refine g_iconst (v := nI 1) E d_CY_withBit_13 (by decide) ?_
    refine g_iload_n E d_CY_withBit_14 rfl 1 rfl ?_
    refine g_ishl E d_CY_withBit_15 ?_
    refine g_topi (nI_pow hb) ?_
    refine g_iconst (v := oN none) E d_CY_withBit_16 (by decide) ?_
    refine g_ixor E d_CY_withBit_17 ?_
    refine g_iand E d_CY_withBit_18 ?_
    refine g_topi (nI_clr _ _) ?_
    exact g_iret E hr hlk d_CY_withBit_19 (gq_i (by simp [sB, h1]))
  · refine g_iload_n E d_CY_withBit_4 rfl 0 rfl ?_
    refine g_iconst (v := nI 1) E d_CY_withBit_5 (by decide) ?_
    refine g_iload_n E d_CY_withBit_6 rfl 1 rfl ?_
    refine g_ishl E d_CY_withBit_7 ?_
    refine g_topi (nI_pow hb) ?_
    refine g_ior E d_CY_withBit_8 ?_
    refine g_topi (nI_or _ _) ?_
    refine g_goto E 19 d_CY_withBit_9 (by decide) ?_
    exact g_iret E hr hlk d_CY_withBit_19 (gq_i (by simp [sB, h1]))

set_option maxHeartbeats 4000000 in
set_option maxRecDepth 100000 in
theorem C_Ye_has (l : Launch) {V : gV} {ad r1 r2 r3 : Nat → Nat} {nY : Nat} {ix bu : Nat → Nat} {np : Nat} {st sr : Nat → Nat} {sx tk : Nat → Nat → Nat} {rn sh sn : Nat → Nat} {yw nw : Nat} {yo ce wo : Nat → Nat} {po ne : Nat → Option Nat} {cs : Nat → Nat} {sv : Nat → Nat → Nat} {mk : Nat} {sp rs : Nat → Int} {bg dp : Nat} (x : Int32) : mPi l y_Ye_has (w_Ye_has :: gt) rm_Ye_has V (wC V ad r1 r2 r3 nY ix bu np st sr sx tk rn sh sn yw nw yo ce wo po ne cs sv mk sp rs bg dp) [.ref (ad 1), .int x] (bI (inR x (nI nY))) := by
  refine gMet (V := V) (As := [.ref (ad 1), .int x]) (cc := c_Ye_has) (maxL := 2) (ret := (some .boolean)) (by decide) rfl (Nat.le_of_ble_eq_true rfl) (fun a U h => ⟨h.1, h.2.2⟩) ?_
  intro p e s m below meth c E hr hlk hnm hv
  have hO := gO_r (locs1 := []) (ws := wC V ad r1 r2 r3 nY ix bu np st sr sx tk rn sh sn yw nw yo ce wo po ne cs sv mk sp rs bg dp) hv.2.1
  refine g_iload_n E d_Ye_has_0 rfl 1 rfl ?_
  refine g_if_lt E 16 d_Ye_has_1 (by decide) (fun h1 => ?_) (fun h1 => ?_)
  · refine g_iconst (v := nI 0) E d_Ye_has_16 (by decide) ?_
    exact g_zret E hr hlk d_Ye_has_17 (Or.inl rfl) (gq_i (by simp [bI, nI_0, nI_c1, inR, h1]))
  · refine g_iload_n E d_Ye_has_4 rfl 1 rfl ?_
    refine g_aload_n E d_Ye_has_5 rfl 0 rfl ?_
    refine gf_Ye_16 E hO 1 rfl rfl d_Ye_has_6 ?_
    refine g_icmp_ge E 16 d_Ye_has_9 (by decide) (fun h2 => ?_) (fun h2 => ?_)
    · refine g_iconst (v := nI 0) E d_Ye_has_16 (by decide) ?_
      exact g_zret E hr hlk d_Ye_has_17 (Or.inl rfl) (gq_i (by simp [bI, nI_0, nI_c1, inR, h1, h2]))
    · refine g_iconst (v := nI 1) E d_Ye_has_12 (by decide) ?_
      refine g_goto E 17 d_Ye_has_13 (by decide) ?_
      exact g_zret E hr hlk d_Ye_has_17 (Or.inr rfl) (gq_i (by simp [bI, nI_0, nI_c1, inR, h1, h2]))

set_option maxHeartbeats 4000000 in
set_option maxRecDepth 100000 in
theorem C_Pa_has (l : Launch) {V : gV} {ad r1 r2 r3 : Nat → Nat} {nY : Nat} {ix bu : Nat → Nat} {np : Nat} {st sr : Nat → Nat} {sx tk : Nat → Nat → Nat} {rn sh sn : Nat → Nat} {yw nw : Nat} {yo ce wo : Nat → Nat} {po ne : Nat → Option Nat} {cs : Nat → Nat} {sv : Nat → Nat → Nat} {mk : Nat} {sp rs : Nat → Int} {bg dp : Nat} (x : Int32) : mPi l y_Pa_has (w_Pa_has :: gt) rm_Pa_has V (wC V ad r1 r2 r3 nY ix bu np st sr sx tk rn sh sn yw nw yo ce wo po ne cs sv mk sp rs bg dp) [.ref (ad 4), .int x] (bI (inR x (nI np))) := by
  refine gMet (V := V) (As := [.ref (ad 4), .int x]) (cc := c_Pa_has) (maxL := 2) (ret := (some .boolean)) (by decide) rfl (Nat.le_of_ble_eq_true rfl) (fun a U h => ⟨h.1, h.2.2⟩) ?_
  intro p e s m below meth c E hr hlk hnm hv
  have hO := gO_r (locs1 := []) (ws := wC V ad r1 r2 r3 nY ix bu np st sr sx tk rn sh sn yw nw yo ce wo po ne cs sv mk sp rs bg dp) hv.2.1
  refine g_iload_n E d_Pa_has_0 rfl 1 rfl ?_
  refine g_if_lt E 16 d_Pa_has_1 (by decide) (fun h1 => ?_) (fun h1 => ?_)
  · refine g_iconst (v := nI 0) E d_Pa_has_16 (by decide) ?_
    exact g_zret E hr hlk d_Pa_has_17 (Or.inl rfl) (gq_i (by simp [bI, nI_0, nI_c1, inR, h1]))
  · refine g_iload_n E d_Pa_has_4 rfl 1 rfl ?_
    refine g_aload_n E d_Pa_has_5 rfl 0 rfl ?_
    refine gf_Pa_34 E hO 4 rfl rfl d_Pa_has_6 ?_
    refine g_icmp_ge E 16 d_Pa_has_9 (by decide) (fun h2 => ?_) (fun h2 => ?_)
    · refine g_iconst (v := nI 0) E d_Pa_has_16 (by decide) ?_
      exact g_zret E hr hlk d_Pa_has_17 (Or.inl rfl) (gq_i (by simp [bI, nI_0, nI_c1, inR, h1, h2]))
    · refine g_iconst (v := nI 1) E d_Pa_has_12 (by decide) ?_
      refine g_goto E 17 d_Pa_has_13 (by decide) ?_
      exact g_zret E hr hlk d_Pa_has_17 (Or.inr rfl) (gq_i (by simp [bI, nI_0, nI_c1, inR, h1, h2]))

set_option maxHeartbeats 4000000 in
set_option maxRecDepth 100000 in
theorem C_Wo_has (l : Launch) {V : gV} {ad r1 r2 r3 : Nat → Nat} {nY : Nat} {ix bu : Nat → Nat} {np : Nat} {st sr : Nat → Nat} {sx tk : Nat → Nat → Nat} {rn sh sn : Nat → Nat} {yw nw : Nat} {yo ce wo : Nat → Nat} {po ne : Nat → Option Nat} {cs : Nat → Nat} {sv : Nat → Nat → Nat} {mk : Nat} {sp rs : Nat → Int} {bg dp : Nat} (x : Int32) : mPi l y_Wo_has (w_Wo_has :: gt) rm_Wo_has V (wC V ad r1 r2 r3 nY ix bu np st sr sx tk rn sh sn yw nw yo ce wo po ne cs sv mk sp rs bg dp) [.ref (ad 12), .int x] (bI (inR x (nI nw))) := by
  refine gMet (V := V) (As := [.ref (ad 12), .int x]) (cc := c_Wo_has) (maxL := 2) (ret := (some .boolean)) (by decide) rfl (Nat.le_of_ble_eq_true rfl) (fun a U h => ⟨h.1, h.2.2⟩) ?_
  intro p e s m below meth c E hr hlk hnm hv
  have hO := gO_r (locs1 := []) (ws := wC V ad r1 r2 r3 nY ix bu np st sr sx tk rn sh sn yw nw yo ce wo po ne cs sv mk sp rs bg dp) hv.2.1
  refine g_iload_n E d_Wo_has_0 rfl 1 rfl ?_
  refine g_if_lt E 16 d_Wo_has_1 (by decide) (fun h1 => ?_) (fun h1 => ?_)
  · refine g_iconst (v := nI 0) E d_Wo_has_16 (by decide) ?_
    exact g_zret E hr hlk d_Wo_has_17 (Or.inl rfl) (gq_i (by simp [bI, nI_0, nI_c1, inR, h1]))
  · refine g_iload_n E d_Wo_has_4 rfl 1 rfl ?_
    refine g_aload_n E d_Wo_has_5 rfl 0 rfl ?_
    refine gf_Wo_44 E hO 12 rfl rfl d_Wo_has_6 ?_
    refine g_icmp_ge E 16 d_Wo_has_9 (by decide) (fun h2 => ?_) (fun h2 => ?_)
    · refine g_iconst (v := nI 0) E d_Wo_has_16 (by decide) ?_
      exact g_zret E hr hlk d_Wo_has_17 (Or.inl rfl) (gq_i (by simp [bI, nI_0, nI_c1, inR, h1, h2]))
    · refine g_iconst (v := nI 1) E d_Wo_has_12 (by decide) ?_
      refine g_goto E 17 d_Wo_has_13 (by decide) ?_
      exact g_zret E hr hlk d_Wo_has_17 (Or.inr rfl) (gq_i (by simp [bI, nI_0, nI_c1, inR, h1, h2]))

set_option maxHeartbeats 4000000 in
set_option maxRecDepth 100000 in
theorem C_Ye_costIn (l : Launch) {V : gV} {ad r1 r2 r3 : Nat → Nat} {nY : Nat} {ix bu : Nat → Nat} {np : Nat} {st sr : Nat → Nat} {sx tk : Nat → Nat → Nat} {rn sh sn : Nat → Nat} {yw nw : Nat} {yo ce wo : Nat → Nat} {po ne : Nat → Option Nat} {cs : Nat → Nat} {sv : Nat → Nat → Nat} {mk : Nat} {sp rs : Nat → Int} {bg dp : Nat} (y k : Nat) (hy : y < 12) (hk : k < 2 ^ 31) (hi : ix y ≤ 2000) : mPi l y_Ye_costIn (w_Ye_costIn :: gt) rm_Ye_costIn V (wC V ad r1 r2 r3 nY ix bu np st sr sx tk rn sh sn yw nw yo ce wo po ne cs sv mk sp rs bg dp) [.ref (ad 1), .int (nI y), .int (nI k)] (nI (k * ix y / 1000)) := by
  refine gMet (V := V) (As := [.ref (ad 1), .int (nI y), .int (nI k)]) (cc := c_Ye_costIn) (maxL := 3) (ret := (some .int)) (by decide) rfl (Nat.le_of_ble_eq_true rfl) (fun a U h => ⟨h.1, h.2.2⟩) ?_
  intro p e s m below meth c E hr hlk hnm hv
  have hO := gO_r (locs1 := []) (ws := wC V ad r1 r2 r3 nY ix bu np st sr sx tk rn sh sn yw nw yo ce wo po ne cs sv mk sp rs bg dp) hv.2.1
  refine g_iload_n E d_Ye_costIn_0 rfl 2 rfl ?_
  refine g_i2l E d_Ye_costIn_1 ?_
  refine g_topl (nI_l (by omega)) ?_
  refine g_aload_n E d_Ye_costIn_2 rfl 0 rfl ?_
  refine gf_Ye_9 E hO 1 rfl rfl d_Ye_costIn_3 ?_
  refine g_iload_n E d_Ye_costIn_6 rfl 1 rfl ?_
  refine g_ldN E hO 2 rfl (by omega) (by decide) d_Ye_costIn_7 ?_
  refine g_i2l E d_Ye_costIn_8 ?_
  refine g_topl (nI_l (by omega)) ?_
  refine g_lmul E d_Ye_costIn_9 ?_
  refine g_topl (lN_mul _ _) ?_
  refine g_ldc2 E kk_Ye_26 d_Ye_costIn_10 ?_
  refine g_topl (show ((1000) : Int64) = lN 1000 from by decide) ?_
  refine g_ldiv E d_Ye_costIn_13 (by decide) ?_
  refine g_topl (pk_lDiv (Nat.lt_of_le_of_lt (Nat.mul_le_mul (Nat.le_of_lt hk) hi) (by decide)) (by decide) (by decide)) ?_
  refine g_l2i E d_Ye_costIn_14 ?_
  refine g_topi (lN_i _) ?_
  exact g_iret E hr hlk d_Ye_costIn_15 (gq_i (rfl))

/-- a part, and a state of it -/
def hasSt (np : Nat) (st : Nat → Nat) (x z : Int32) : Bool := inR x (nI np) && inR z (nI (st x.toNatClampNeg))

set_option maxHeartbeats 4000000 in
set_option maxRecDepth 100000 in
theorem C_Pa_hasState (l : Launch) {V : gV} {ad r1 r2 r3 : Nat → Nat} {nY : Nat} {ix bu : Nat → Nat} {np : Nat} {st sr : Nat → Nat} {sx tk : Nat → Nat → Nat} {rn sh sn : Nat → Nat} {yw nw : Nat} {yo ce wo : Nat → Nat} {po ne : Nat → Option Nat} {cs : Nat → Nat} {sv : Nat → Nat → Nat} {mk : Nat} {sp rs : Nat → Int} {bg dp : Nat} (x z : Int32) (hnp : np ≤ 12) : mPi l y_Pa_hasState (w_Pa_hasState :: gt) rm_Pa_hasState V (wC V ad r1 r2 r3 nY ix bu np st sr sx tk rn sh sn yw nw yo ce wo po ne cs sv mk sp rs bg dp) [.ref (ad 4), .int x, .int z] (bI (hasSt np st x z)) := by
  refine gMet (V := V) (As := [.ref (ad 4), .int x, .int z]) (cc := c_Pa_hasState) (maxL := 3) (ret := (some .boolean)) (by decide) rfl (Nat.le_of_ble_eq_true rfl) (fun a U h => ⟨h.1, h.2.2⟩) ?_
  intro p e s m below meth c E hr hlk hnm hv
  have hO := gO_r (locs1 := []) (ws := wC V ad r1 r2 r3 nY ix bu np st sr sx tk rn sh sn yw nw yo ce wo po ne cs sv mk sp rs bg dp) hv.2.1
  refine g_aload_n E d_Pa_hasState_0 rfl 0 rfl ?_
  refine g_iload_n E d_Pa_hasState_1 rfl 1 rfl ?_
  refine gpVi (As := [.int x]) (rest := []) E hO 4 rfl rfl (C_Pa_has l x) (cs_Pa_38 E rfl rfl ⟨Nat.le_of_ble_eq_true rfl, Nat.le_of_ble_eq_true rfl⟩) rfl rfl (Nat.le_of_ble_eq_true rfl) ⟨Nat.zero_le _, Nat.zero_le _⟩ d_Pa_hasState_2 ?_
  refine g_bif_eq E 26 d_Pa_hasState_5 (by decide) (fun h1 => ?_) (fun h1 => ?_)
  · refine g_iconst (v := nI 0) E d_Pa_hasState_26 (by decide) ?_
    exact g_zret E hr hlk d_Pa_hasState_27 (Or.inl rfl) (gq_i (by rw [hasSt, h1]; simp [bI, nI_0, nI_c1]))
  · obtain ⟨j, hj, rfl⟩ := (inR_iff (by omega)).mp h1
    have hcl : (nI j).toNatClampNeg = j := nI_clamp (by omega)
    refine g_iload_n E d_Pa_hasState_8 rfl 2 rfl ?_
    refine g_if_lt E 26 d_Pa_hasState_9 (by decide) (fun h2 => ?_) (fun h2 => ?_)
    · refine g_iconst (v := nI 0) E d_Pa_hasState_26 (by decide) ?_
      exact g_zret E hr hlk d_Pa_hasState_27 (Or.inl rfl) (gq_i (by rw [hasSt, h1, hcl]; simp [bI, nI_0, nI_c1, inR, h2]))
    · refine g_iload_n E d_Pa_hasState_12 rfl 2 rfl ?_
      refine g_aload_n E d_Pa_hasState_13 rfl 0 rfl ?_
      refine gf_Pa_9 E hO 4 rfl rfl d_Pa_hasState_14 ?_
      refine g_iload_n E d_Pa_hasState_17 rfl 1 rfl ?_
      refine g_ldN E hO 5 rfl (by omega) (by decide) d_Pa_hasState_18 ?_
      refine g_icmp_ge E 26 d_Pa_hasState_19 (by decide) (fun h3 => ?_) (fun h3 => ?_)
      · refine g_iconst (v := nI 0) E d_Pa_hasState_26 (by decide) ?_
        exact g_zret E hr hlk d_Pa_hasState_27 (Or.inl rfl) (gq_i (by rw [hasSt, h1, hcl]; simp [bI, nI_0, nI_c1, inR, h2, h3]))
      · refine g_iconst (v := nI 1) E d_Pa_hasState_22 (by decide) ?_
        refine g_goto E 27 d_Pa_hasState_23 (by decide) ?_
        exact g_zret E hr hlk d_Pa_hasState_27 (Or.inr rfl) (gq_i (by rw [hasSt, h1, hcl]; simp [bI, nI_0, nI_c1, inR, h2, h3]))

set_option maxHeartbeats 4000000 in
set_option maxRecDepth 100000 in
theorem C_Pa_going (l : Launch) {V : gV} {ad r1 r2 r3 : Nat → Nat} {nY : Nat} {ix bu : Nat → Nat} {np : Nat} {st sr : Nat → Nat} {sx tk : Nat → Nat → Nat} {rn sh sn : Nat → Nat} {yw nw : Nat} {yo ce wo : Nat → Nat} {po ne : Nat → Option Nat} {cs : Nat → Nat} {sv : Nat → Nat → Nat} {mk : Nat} {sp rs : Nat → Int} {bg dp : Nat} (i a b : Nat) (hi : i < 12) (ha : a < 4) (hb : b < 4) : mPi l y_Pa_going (w_Pa_going :: gt) rm_Pa_going V (wC V ad r1 r2 r3 nY ix bu np st sr sx tk rn sh sn yw nw yo ce wo po ne cs sv mk sp rs bg dp) [.ref (ad 4), .int (nI i), .int (nI a), .int (nI b)] (nI (sx i (a * 4 + b))) := by
  refine gMet (V := V) (As := [.ref (ad 4), .int (nI i), .int (nI a), .int (nI b)]) (cc := c_Pa_going) (maxL := 4) (ret := (some .int)) (by decide) rfl (Nat.le_of_ble_eq_true rfl) (fun a U h => ⟨h.1, h.2.2⟩) ?_
  intro p e s m below meth c E hr hlk hnm hv
  have hO := gO_r (locs1 := []) (ws := wC V ad r1 r2 r3 nY ix bu np st sr sx tk rn sh sn yw nw yo ce wo po ne cs sv mk sp rs bg dp) hv.2.1
  refine g_aload_n E d_Pa_going_0 rfl 0 rfl ?_
  refine gf_Pa_18 E hO 4 rfl rfl d_Pa_going_1 ?_
  refine g_iload_n E d_Pa_going_4 rfl 1 rfl ?_
  refine g_aaload E hO 7 rfl (by omega) (by decide) d_Pa_going_5 ?_
  refine g_iload_n E d_Pa_going_6 rfl 2 rfl ?_
  refine g_iconst (v := nI 4) E d_Pa_going_7 (by decide) ?_
  refine g_imul E d_Pa_going_8 ?_
  refine g_topi (pk_mul _ _) ?_
  refine g_iload_n E d_Pa_going_9 rfl 3 rfl ?_
  refine g_iadd E d_Pa_going_10 ?_
  refine g_topi (nI_add _ _) ?_
  refine g_ldN E hO (22 + i) (wC_g1 (by omega)) (by omega) (by decide) d_Pa_going_11 ?_
  exact g_iret E hr hlk d_Pa_going_12 (gq_i (by simp))

set_option maxHeartbeats 4000000 in
set_option maxRecDepth 100000 in
theorem C_Pa_setGoing (l : Launch) {V : gV} {ad r1 r2 r3 : Nat → Nat} {nY : Nat} {ix bu : Nat → Nat} {np : Nat} {st sr : Nat → Nat} {sx tk : Nat → Nat → Nat} {rn sh sn : Nat → Nat} {yw nw : Nat} {yo ce wo : Nat → Nat} {po ne : Nat → Option Nat} {cs : Nat → Nat} {sv : Nat → Nat → Nat} {mk : Nat} {sp rs : Nat → Int} {bg dp : Nat} (i a b v : Nat) (hi : i < 12) (ha : a < 4) (hb : b < 4) : mWv l y_Pa_setGoing (w_Pa_setGoing :: gt) rm_Pa_setGoing V (wC V ad r1 r2 r3 nY ix bu np st sr sx tk rn sh sn yw nw yo ce wo po ne cs sv mk sp rs bg dp) [.ref (ad 4), .int (nI i), .int (nI a), .int (nI b), .int (nI v)] (wC V ad r1 r2 r3 nY ix bu np st sr (mUp sx i (a * 4 + b) v) tk rn sh sn yw nw yo ce wo po ne cs sv mk sp rs bg dp) 0 0 := by
  intro sz
  refine gMet (V := V) (As := [.ref (ad 4), .int (nI i), .int (nI a), .int (nI b), .int (nI v)]) (cc := c_Pa_setGoing) (maxL := 5) (ret := none) (by decide) rfl (Nat.le_of_ble_eq_true rfl) (fun a U h => ⟨h.1, h.2.2.2.1⟩) ?_
  intro p e s m below meth c E hr hlk hnm hv
  refine g_toW (sz := sz) (w := wC V ad r1 r2 r3 nY ix bu np st sr sx tk rn sh sn yw nw yo ce wo po ne cs sv mk sp rs bg dp) hv.2.2.1 hv.2.2.2.2 ?_
  have hA0 : ∀ q : Nat, s.heap.size ≤ q → va_A (wC V ad r1 r2 r3 nY ix bu np st sr sx tk rn sh sn yw nw yo ce wo po ne cs sv mk sp rs bg dp) sz q := fun q h => Or.inr (by rw [← hv.2.1]; exact h)
  refine g_aload_n E d_Pa_setGoing_0 rfl 0 rfl ?_
  refine gf_Pa_18 E gO_w 4 rfl rfl d_Pa_setGoing_1 ?_
  refine g_iload_n E d_Pa_setGoing_4 rfl 1 rfl ?_
  refine g_aaload E gO_w 7 rfl (by omega) (by decide) d_Pa_setGoing_5 ?_
  refine g_iload_n E d_Pa_setGoing_6 rfl 2 rfl ?_
  refine g_iconst (v := nI 4) E d_Pa_setGoing_7 (by decide) ?_
  refine g_imul E d_Pa_setGoing_8 ?_
  refine g_topi (pk_mul _ _) ?_
  refine g_iload_n E d_Pa_setGoing_9 rfl 3 rfl ?_
  refine g_iadd E d_Pa_setGoing_10 ?_
  refine g_topi (nI_add _ _) ?_
  refine g_iload E d_Pa_setGoing_11 4 rfl ?_
  refine g_stN (ws' := wC V ad r1 r2 r3 nY ix bu np st sr (mUp sx i ((a * 4) + b) v) tk rn sh sn yw nw yo ce wo po ne cs sv mk sp rs bg dp) E (22 + i) (wC_g1 (by omega)) (by omega) (by decide) (wC_s1 (by omega)) d_Pa_setGoing_13 ?_
  refine g_ws (ws' := wC V ad r1 r2 r3 nY ix bu np st sr (mUp sx i (a * 4 + b) v) tk rn sh sn yw nw yo ce wo po ne cs sv mk sp rs bg dp) (rfl) ?_
  exact g_vret E hr hlk d_Pa_setGoing_14 (gq_wv (w1 := fun _ => wC V ad r1 r2 r3 nY ix bu np st sr (mUp sx i (a * 4 + b) v) tk rn sh sn yw nw yo ce wo po ne cs sv mk sp rs bg dp) () trivial)

set_option maxHeartbeats 4000000 in
set_option maxRecDepth 100000 in
theorem C_Wo_all (l : Launch) {V : gV} {ad r1 r2 r3 : Nat → Nat} {nY : Nat} {ix bu : Nat → Nat} {np : Nat} {st sr : Nat → Nat} {sx tk : Nat → Nat → Nat} {rn sh sn : Nat → Nat} {yw nw : Nat} {yo ce wo : Nat → Nat} {po ne : Nat → Option Nat} {cs : Nat → Nat} {sv : Nat → Nat → Nat} {mk : Nat} {sp rs : Nat → Int} {bg dp : Nat} (hnw : nw ≤ 10) : mPi l y_Wo_all (w_Wo_all :: gt) rm_Wo_all V (wC V ad r1 r2 r3 nY ix bu np st sr sx tk rn sh sn yw nw yo ce wo po ne cs sv mk sp rs bg dp) [.ref (ad 12)] (nI (2 ^ nw - 1)) := by
  refine gMet (V := V) (As := [.ref (ad 12)]) (cc := c_Wo_all) (maxL := 1) (ret := (some .int)) (by decide) rfl (Nat.le_of_ble_eq_true rfl) (fun a U h => ⟨h.1, h.2.2⟩) ?_
  intro p e s m below meth c E hr hlk hnm hv
  have hO := gO_r (locs1 := []) (ws := wC V ad r1 r2 r3 nY ix bu np st sr sx tk rn sh sn yw nw yo ce wo po ne cs sv mk sp rs bg dp) hv.2.1
  refine g_iconst (v := nI 1) E d_Wo_all_0 (by decide) ?_
  refine g_aload_n E d_Wo_all_1 rfl 0 rfl ?_
  refine gf_Wo_44 E hO 12 rfl rfl d_Wo_all_2 ?_
  refine g_ishl E d_Wo_all_5 ?_
  refine g_topi (nI_pow (by omega)) ?_
  refine g_iconst (v := nI 1) E d_Wo_all_6 (by decide) ?_
  refine g_isub E d_Wo_all_7 ?_
  refine g_topi (pk_sub (Nat.one_le_two_pow)) ?_
  exact g_iret E hr hlk d_Wo_all_8 (gq_i (rfl))
end
section
/-! What the works come to, as functions on numbers. -/
def allN (f : Nat → Bool) : Nat → Bool
  | 0 => true
  | n + 1 => allN f n && f n
theorem allN_iff {f : Nat → Bool} {n : Nat} : allN f n = true ↔ ∀ i, i < n → f i = true := by
  induction n with
  | zero => simp [allN]
  | succ n ih =>
    simp only [allN, Bool.and_eq_true, ih]
    constructor
    · rintro ⟨h1, h2⟩ i hi
      rcases Nat.lt_succ_iff_lt_or_eq.mp hi with h | rfl
      · exact h1 i h
      · exact h2
    · intro h
      exact ⟨fun i hi => h i (by omega), h n (by omega)⟩
theorem allN_false {f : Nat → Bool} {n i : Nat} (hi : i < n) (h : f i = false) : allN f n = false := by
  cases hA : allN f n with
  | false => rfl
  | true => rw [allN_iff.mp hA i hi] at h; cases h
/-- the worth of a set of the first n works -/
def wS (wo : Nat → Nat) (S n : Nat) : Nat := sumN (fun w => if S.testBit w then wo w else 0) n
/-- a work of the set lacks what it needs -/
def nB (ne : Nat → Option Nat) (yo : Nat → Nat) (S w : Nat) : Bool := match ne w with
  | none => false
  | some q => !S.testBit q || decide (yo w < yo q)
def agW (cs : Nat → Nat) (ne : Nat → Option Nat) (yo : Nat → Nat) (S w : Nat) : Bool := !S.testBit w || (decide (cs w &&& S = 0) && !nB ne yo S w)
/-- what work w saves with those of lower numbers -/
def sW (yo : Nat → Nat) (sv : Nat → Nat → Nat) (S w n : Nat) : Nat := sumN (fun b => if S.testBit b && decide (yo b = yo w) then sv w b else 0) n
/-- what the first n works of the set cost in year y, before it is cut off at 0 -/
def cR (ix : Nat → Nat) (yo ce : Nat → Nat) (sv : Nat → Nat → Nat) (S y n : Nat) : Int := sumZ (fun w => if S.testBit w && decide (yo w = y) then ((ce w * ix y / 1000 : Nat) : Int) - ((sW yo sv S w w : Nat) : Int) else 0) n
def mz (z : Int) : Int := if z < 0 then 0 else z
/-- what a year's works of the set cost -/
def cS (ix : Nat → Nat) (yo ce : Nat → Nat) (sv : Nat → Nat → Nat) (nw S y : Nat) : Int := mz (cR ix yo ce sv S y nw)
/-- what the budgets lack for costs c, over the first n years -/
def oB (bu : Nat → Nat) (c : Nat → Int) (n : Nat) : Int := sumZ (fun y => mz (c y - (bu y : Int))) n
theorem sumN_le {f : Nat → Nat} {M n : Nat} (h : ∀ i, i < n → f i ≤ M) : sumN f n ≤ n * M := by
  induction n with
  | zero => simp [sumN]
  | succ n ih =>
    have h1 := ih (fun i hi => h i (by omega))
    have h2 := h n (by omega)
    simp only [sumN, Nat.succ_mul]
    omega
theorem sumZ_abs {f : Nat → Int} {M : Int} {n : Nat} (h : ∀ i, i < n → -M ≤ f i ∧ f i ≤ M) : -(n * M) ≤ sumZ f n ∧ sumZ f n ≤ n * M := by
  induction n with
  | zero => simp [sumZ]
  | succ n ih =>
    have h1 := ih (fun i hi => h i (by omega))
    have h2 := h n (by omega)
    have e : ((n + 1 : Nat) : Int) * M = n * M + M := by rw [Int.natCast_add, Int.add_mul]; simp
    simp only [sumZ]
    omega
theorem sW_le {yo : Nat → Nat} {sv : Nat → Nat → Nat} {S w n : Nat} (h : ∀ a b, sv a b ≤ 1000000) : sW yo sv S w n ≤ n * 1000000 := by
  apply sumN_le
  intro i _
  split
  · exact h _ _
  · omega
theorem cR_abs {ix yo ce : Nat → Nat} {sv : Nat → Nat → Nat} {S y n : Nat} (hn : n ≤ 10) (h1 : ∀ y, ix y ≤ 2000) (h2 : ∀ w, ce w ≤ 1000000) (h3 : ∀ a b, sv a b ≤ 1000000) : -100000000 ≤ cR ix yo ce sv S y n ∧ cR ix yo ce sv S y n ≤ 100000000 := by
  have h := sumZ_abs (f := fun w => if S.testBit w && decide (yo w = y) then ((ce w * ix y / 1000 : Nat) : Int) - ((sW yo sv S w w : Nat) : Int) else 0) (M := 10000000) (n := n) (fun i hi => by
    have a1 : ce i * ix y / 1000 ≤ 2000000 := by
      have := Nat.mul_le_mul (h2 i) (h1 y)
      omega
    have a2 := sW_le (yo := yo) (S := S) (w := i) (n := i) h3
    have a3 : i * 1000000 ≤ 9000000 := by omega
    split <;> omega)
  unfold cR
  have e1 : (n : Int) * 10000000 ≤ 100000000 := by omega
  omega
theorem mz_abs {z : Int} {M : Int} (hM : 0 ≤ M) (h : -M ≤ z ∧ z ≤ M) : 0 ≤ mz z ∧ mz z ≤ M := by unfold mz; split <;> omega
theorem cS_abs {ix yo ce : Nat → Nat} {sv : Nat → Nat → Nat} {S y n : Nat} (hn : n ≤ 10) (h1 : ∀ y, ix y ≤ 2000) (h2 : ∀ w, ce w ≤ 1000000) (h3 : ∀ a b, sv a b ≤ 1000000) : 0 ≤ cS ix yo ce sv n S y ∧ cS ix yo ce sv n S y ≤ 100000000 := mz_abs (by omega) (cR_abs hn h1 h2 h3)
theorem iI_lt {a b : Int} (ha1 : -2147483648 ≤ a) (ha2 : a < 2147483648) (hb1 : -2147483648 ≤ b) (hb2 : b < 2147483648) : iI a < iI b ↔ a < b := by rw [Int32.lt_iff_toInt_lt, iI_toInt ha1 ha2, iI_toInt hb1 hb2]
theorem iI_le {a b : Int} (ha1 : -2147483648 ≤ a) (ha2 : a < 2147483648) (hb1 : -2147483648 ≤ b) (hb2 : b < 2147483648) : iI a ≤ iI b ↔ a ≤ b := by rw [Int32.le_iff_toInt_le, iI_toInt ha1 ha2, iI_toInt hb1 hb2]
theorem iI_eq {a b : Int} (ha1 : -2147483648 ≤ a) (ha2 : a < 2147483648) (hb1 : -2147483648 ≤ b) (hb2 : b < 2147483648) : iI a = iI b ↔ a = b := by
  constructor
  · intro h
    have := congrArg Int32.toInt h
    rwa [iI_toInt ha1 ha2, iI_toInt hb1 hb2] at this
  · rintro rfl; rfl
/-- an array's places beyond its length don't matter -/
theorem arrV_same {c : ClassId} {n : Nat} {f g : Nat → Value} (h : ∀ j, j < n → f j = g j) : arrV c n f = arrV c n g := by
  have e : (fun j : Fin n => f j.val) = fun j : Fin n => g j.val := funext (fun j => h j.1 j.2)
  unfold arrV
  rw [e]
theorem at_i {D : va_G} {cl : List vw_C} {a n : Nat} {cA : ClassId} {f g : Nat → Int32} (h : ∀ j, j < n → f j = g j) (H : Heap) (q : va_at D cl (a, .inl (cA, n, .inl f)) H) : va_at D cl (a, .inl (cA, n, .inl g)) H := by
  show H[a]? = some (arrV cA n (fun j => .int (g j)))
  rw [← arrV_same (f := fun j => .int (f j)) (fun j hj => by rw [h j hj])]
  exact q
theorem at_l {D : va_G} {cl : List vw_C} {a n : Nat} {cA : ClassId} {f g : Nat → Int64} (h : ∀ j, j < n → f j = g j) (H : Heap) (q : va_at D cl (a, .inl (cA, n, .inr (.inl f))) H) : va_at D cl (a, .inl (cA, n, .inr (.inl g))) H := by
  show H[a]? = some (arrV cA n (fun j => .long (g j)))
  rw [← arrV_same (f := fun j => .long (f j)) (fun j hj => by rw [h j hj])]
  exact q
section GSW
variable {p : Program} {l : Launch} {e : Env} {R : Room} {s : State} {m : MethodId} {args : Array Value} {below : List Frame} {meth : Method} {c : Code} {V : gV} {A : Nat → Prop} {H0 : Heap} {nL : Nat} {Q : State → Prop} {cells slots : Nat} {ws : va_W} {lv : List (Nat × Value)} {pc : Nat} {rest : List Value}
theorem g_swap (q : Nat) {a : Nat} {x x' : va_E} (hq : ws[q]? = some (a, x)) (hs : ∀ H, va_at V.1 clz (a, x) H → va_at V.1 clz (a, x') H) {ws' : va_W} (hw : ws.set q (a, x') = ws') (k : gg p l e R s m args below meth c nL Q cells slots (gW V A H0 ws') lv pc rest) : gg p l e R s m args below meth c nL Q cells slots (gW V A H0 ws) lv pc rest := fun H locs ls ho hl => k H locs ls ⟨hw ▸ ho.1.set ho.2.1 hq (hs H (ho.1 q _ hq)) (fun _ _ => rfl), hw ▸ ho.2.1.set hq, ho.2.2⟩ hl
end GSW
theorem set_same {w : va_W} {q : Nat} {x : Nat × va_E} (h : w[q]? = some x) : w = w.set q x := by
  apply List.ext_getElem?
  intro j
  rw [List.getElem?_set]
  split
  · rename_i e
    subst e
    rw [h]
    rw [if_pos (List.getElem?_eq_some_iff.mp h).1]
  · rfl
theorem get_set {w : va_W} {q : Nat} {x y : Nat × va_E} (h : w[q]? = some x) : (w.set q y)[q]? = some y := by
  rw [List.getElem?_set, if_pos rfl, if_pos (List.getElem?_eq_some_iff.mp h).1]
set_option maxHeartbeats 4000000 in
set_option maxRecDepth 100000 in
/-- Arrays.fill of an int[]: every place holds v -/
theorem C_fillI (l : Launch) {V : gV} {w : va_W} (q a n : Nat) (f : Nat → Int32) (v : Int32) (hq : w[q]? = some (a, .inl (V.2.1, n, .inl f))) (hn : n < 2 ^ 31) : mWv l y_Ar_fillI (w_Ar_fillI :: gt) rm_Ar_fillI V w [.ref a, .int v] (w.set q (a, .inl (V.2.1, n, .inl (fun _ => v)))) 0 0 := by
  intro sz
  refine gMet (V := V) (As := [.ref a, .int v]) (cc := c_Ar_fillI) (maxL := 4) (ret := none) (by decide) rfl (Nat.le_of_ble_eq_true rfl) (fun a U h => ⟨h.1, h.2.2.2.1⟩) ?_
  intro p e s m below meth c E hr hlk hnm hv
  refine g_toW (sz := sz) (w := w) hv.2.2.1 hv.2.2.2.2 ?_
  refine g_iconst (v := nI 0) E d_Ar_fillI_0 (by decide) ?_
  refine g_istore_n (lv' := [(2, .int (nI 0)), (0, .ref a), (1, .int v)]) E d_Ar_fillI_1 rfl (by decide) rfl ?_
  refine g_aload_n E d_Ar_fillI_2 rfl 1 rfl ?_
  refine g_alen E gO_w q 0 hq rfl d_Ar_fillI_3 ?_
  refine g_istore_n (lv' := [(3, .int (nI n)), (2, .int (nI 0)), (0, .ref a), (1, .int v)]) E d_Ar_fillI_4 rfl (by decide) rfl ?_
  refine g_ws (set_same hq) ?_
  refine gloop (α := Nat × (Nat → Int32)) (fun a_ => gW V _ _ (w.set q (a, .inl (V.2.1, n, .inl a_.2)))) (fun a_ => [(3, .int (nI n)), (2, .int (nI a_.1)), (0, .ref a), (1, .int v)]) (fun a_ => a_.1 ≤ n ∧ ∀ j, j < a_.1 → a_.2 j = v) (fun a_ => n - a_.1) (0, f) ⟨Nat.zero_le _, fun j hj => absurd hj (Nat.not_lt_zero _)⟩ ?_
  rintro ⟨i, g⟩ hI ih
  dsimp only at hI ih ⊢
  obtain ⟨h1, h2⟩ := hI
  refine g_iload_n E d_Ar_fillI_5 rfl 1 rfl ?_
  refine g_iload_n E d_Ar_fillI_6 rfl 0 rfl ?_
  refine g_ncmp_ge E 20 d_Ar_fillI_7 (by decide) (by omega) hn (fun h3 => ?_) (fun h3 => ?_)
  · refine g_swap q (x' := .inl (V.2.1, n, .inl (fun _ => v))) (get_set hq) (at_i (fun j hj => h2 j (by omega))) (List.set_set _) ?_
    exact g_vret E hr hlk d_Ar_fillI_20 (gq_wv (w1 := fun _ => w.set q (a, .inl (V.2.1, n, .inl (fun _ => v)))) () trivial)
  · refine g_aload_n E d_Ar_fillI_10 rfl 2 rfl ?_
    refine g_iload_n E d_Ar_fillI_11 rfl 1 rfl ?_
    refine g_iload_n E d_Ar_fillI_12 rfl 3 rfl ?_
    refine g_iastore (ws' := w.set q (a, .inl (V.2.1, n, .inl (upd g i v)))) E q 0 (get_set hq) rfl h3 hn (List.set_set _) d_Ar_fillI_13 ?_
    refine g_iinc (lv' := [(2, .int (nI (i + 1))), (3, .int (nI n)), (0, .ref a), (1, .int v)]) E d_Ar_fillI_14 1 rfl (nI_inc _) (by decide) rfl ?_
    refine g_goto E 5 d_Ar_fillI_17 (by decide) ?_
    refine g_lv [1, 0, 2, 3] rfl ?_
    exact ih (i + 1, upd g i v) ⟨by omega, fun j hj => by
      dsimp only
      unfold upd
      split
      · rfl
      · exact h2 j (by omega)⟩ (by dsimp only; omega)
set_option maxHeartbeats 4000000 in
set_option maxRecDepth 100000 in
/-- Arrays.fill of a long[] -/
theorem C_fillJ (l : Launch) {V : gV} {w : va_W} (q a n : Nat) (f : Nat → Int64) (v : Int64) (hq : w[q]? = some (a, .inl (V.2.2.1, n, .inr (.inl f)))) (hn : n < 2 ^ 31) : mWv l y_Ar_fillJ (w_Ar_fillJ :: gt) rm_Ar_fillJ V w [.ref a, .long v] (w.set q (a, .inl (V.2.2.1, n, .inr (.inl (fun _ => v))))) 0 0 := by
  intro sz
  refine gMet (V := V) (As := [.ref a, .long v]) (cc := c_Ar_fillJ) (maxL := 5) (ret := none) (by decide) rfl (Nat.le_of_ble_eq_true rfl) (fun a U h => ⟨h.1, h.2.2.2.1⟩) ?_
  intro p e s m below meth c E hr hlk hnm hv
  refine g_toW (sz := sz) (w := w) hv.2.2.1 hv.2.2.2.2 ?_
  refine g_iconst (v := nI 0) E d_Ar_fillJ_0 (by decide) ?_
  refine g_istore_n (lv' := [(3, .int (nI 0)), (0, .ref a), (1, .long v)]) E d_Ar_fillJ_1 rfl (by decide) rfl ?_
  refine g_aload_n E d_Ar_fillJ_2 rfl 1 rfl ?_
  refine g_alen E gO_w q 1 hq rfl d_Ar_fillJ_3 ?_
  refine g_istore (lv' := [(4, .int (nI n)), (3, .int (nI 0)), (0, .ref a), (1, .long v)]) E d_Ar_fillJ_4 (by decide) rfl ?_
  refine g_ws (set_same hq) ?_
  refine gloop (α := Nat × (Nat → Int64)) (fun a_ => gW V _ _ (w.set q (a, .inl (V.2.2.1, n, .inr (.inl a_.2))))) (fun a_ => [(4, .int (nI n)), (3, .int (nI a_.1)), (0, .ref a), (1, .long v)]) (fun a_ => a_.1 ≤ n ∧ ∀ j, j < a_.1 → a_.2 j = v) (fun a_ => n - a_.1) (0, f) ⟨Nat.zero_le _, fun j hj => absurd hj (Nat.not_lt_zero _)⟩ ?_
  rintro ⟨i, g⟩ hI ih
  dsimp only at hI ih ⊢
  obtain ⟨h1, h2⟩ := hI
  refine g_iload_n E d_Ar_fillJ_6 rfl 1 rfl ?_
  refine g_iload E d_Ar_fillJ_7 0 rfl ?_
  refine g_ncmp_ge E 22 d_Ar_fillJ_9 (by decide) (by omega) hn (fun h3 => ?_) (fun h3 => ?_)
  · refine g_swap q (x' := .inl (V.2.2.1, n, .inr (.inl (fun _ => v)))) (get_set hq) (at_l (fun j hj => h2 j (by omega))) (List.set_set _) ?_
    exact g_vret E hr hlk d_Ar_fillJ_22 (gq_wv (w1 := fun _ => w.set q (a, .inl (V.2.2.1, n, .inr (.inl (fun _ => v))))) () trivial)
  · refine g_aload_n E d_Ar_fillJ_12 rfl 2 rfl ?_
    refine g_iload_n E d_Ar_fillJ_13 rfl 1 rfl ?_
    refine g_lload_n E d_Ar_fillJ_14 rfl 3 rfl ?_
    refine g_lastore (ws' := w.set q (a, .inl (V.2.2.1, n, .inr (.inl (vp_updL g i v))))) E q 1 (get_set hq) rfl h3 hn (List.set_set _) d_Ar_fillJ_15 ?_
    refine g_iinc (lv' := [(3, .int (nI (i + 1))), (4, .int (nI n)), (0, .ref a), (1, .long v)]) E d_Ar_fillJ_16 1 rfl (nI_inc _) (by decide) rfl ?_
    refine g_goto E 6 d_Ar_fillJ_19 (by decide) ?_
    refine g_lv [1, 0, 2, 3] rfl ?_
    exact ih (i + 1, vp_updL g i v) ⟨by omega, fun j hj => by
      dsimp only
      unfold vp_updL
      split
      · rfl
      · exact h2 j (by omega)⟩ (by dsimp only; omega)
theorem k_maxI : Cond.code Lib.Math.max.name Lib.Math.max.code 2 (some .int) ∈ gt := gt_at 53 (by decide +kernel) (by decide +kernel)
theorem k_minI : Cond.code Lib.Math.min.name Lib.Math.min.code 2 (some .int) ∈ gt := gt_at 50 (by decide +kernel) (by decide +kernel)
theorem k_maxJ : Cond.code Lib.MathLoose.max_long.x Lib.MathLoose.max_long.code 4 (some .long) ∈ gt := gt_at 566 (by decide +kernel) (by decide +kernel)
theorem k_sys : Cond.initialized "java/lang/System" ∈ gt := gt_at 36 (by decide +kernel) (by decide +kernel)
theorem k_cps : Cond.static arraycopyName ∈ gt := gt_at 287 (by decide +kernel) (by decide +kernel)
theorem k_cpn : Cond.native arraycopyName ∈ gt := gt_at 288 (by decide +kernel) (by decide +kernel)
section GMM
variable {p : Program} {l : Launch} {e : Env} {R : Room} {s : State} {m : MethodId} {args : Array Value} {below : List Frame} {meth : Method} {c : Code} {V : gV} {A : Nat → Prop} {H0 : Heap} {nL : Nat} {Q : State → Prop} {cells slots : Nat} {om : Heap → List Loc → Prop} {ws : va_W} {lv : List (Nat × Value)} {pc : Nat} {rest : List Value} {cc : ByteArray} {own : String}
theorem g_maxI (E : gE p s m args c cc nL own V) {index : Nat} {x y : Int32} (hl0 : Cond.methodLink own index Lib.Math.max.name ∈ gt) (hfr : 1 ≤ R.frames) (hlo : (rest.map fun v => v.category).sum + 13 ≤ R.locals) (hc : cells ≤ R.cells) (hs : slots ≤ R.slots) (hd : decode cc pc = .ok (.invokestatic index, 3)) (k : gg p l e R s m args below meth c nL Q cells slots om lv (pc + 3) (.int (if x < y then y else x) :: rest)) : gg p l e R s m args below meth c nL Q cells slots om lv pc (.int y :: .int x :: rest) := fun H locs ls ho hl => va_mmax E.1 E.2.1 (E.2.2.1.trans hl.1.symm) E.2.2.2.1 (E.2.2.2.2.1 _ hl0) (E.2.2.2.2.1 _ ks_Ma_maxI) (E.2.2.2.2.1 _ kn_Ma) (E.2.2.2.2.1 _ k_maxI) hfr hlo hc hs hd (k H locs ls ho hl)
theorem g_minI (E : gE p s m args c cc nL own V) {index : Nat} {x y : Int32} (hl0 : Cond.methodLink own index Lib.Math.min.name ∈ gt) (hfr : 1 ≤ R.frames) (hlo : (rest.map fun v => v.category).sum + 13 ≤ R.locals) (hc : cells ≤ R.cells) (hs : slots ≤ R.slots) (hd : decode cc pc = .ok (.invokestatic index, 3)) (k : gg p l e R s m args below meth c nL Q cells slots om lv (pc + 3) (.int (if y < x then y else x) :: rest)) : gg p l e R s m args below meth c nL Q cells slots om lv pc (.int y :: .int x :: rest) := fun H locs ls ho hl => va_mmin E.1 E.2.1 (E.2.2.1.trans hl.1.symm) E.2.2.2.1 (E.2.2.2.2.1 _ hl0) (E.2.2.2.2.1 _ ks_Ma_minI) (E.2.2.2.2.1 _ kn_Ma) (E.2.2.2.2.1 _ k_minI) hfr hlo hc hs hd (k H locs ls ho hl)
theorem g_maxJ (E : gE p s m args c cc nL own V) {index : Nat} {x y : Int64} (hl0 : Cond.methodLink own index Lib.MathLoose.max_long.x ∈ gt) (hfr : 1 ≤ R.frames) (hlo : (rest.map fun v => v.category).sum + 15 ≤ R.locals) (hc : cells ≤ R.cells) (hs : slots ≤ R.slots) (hd : decode cc pc = .ok (.invokestatic index, 3)) (k : gg p l e R s m args below meth c nL Q cells slots om lv (pc + 3) (.long (if y < x then x else y) :: rest)) : gg p l e R s m args below meth c nL Q cells slots om lv pc (.long y :: .long x :: rest) := fun H locs ls ho hl => va_mmax_long E.1 E.2.1 (E.2.2.1.trans hl.1.symm) E.2.2.2.1 (E.2.2.2.2.1 _ hl0) (E.2.2.2.2.1 _ ks_Ma_maxJ) (E.2.2.2.2.1 _ kn_Ma) (E.2.2.2.2.1 _ k_maxJ) hfr hlo hc hs hd (k H locs ls ho hl)
end GMM
theorem max_mz {z : Int} (h1 : -2147483648 ≤ z) (h2 : z < 2147483648) : (if iI z < nI 0 then nI 0 else iI z) = iI (mz z) := by
  have e : nI 0 = iI 0 := nI_iI 0
  unfold mz
  by_cases h : z < 0
  · rw [if_pos (by rw [e, iI_lt h1 h2 (by decide) (by decide)]; exact h), if_pos h, e]
  · rw [if_neg (by rw [e, iI_lt h1 h2 (by decide) (by decide)]; exact h), if_neg h]
theorem sumZ_congr {f g : Nat → Int} {n : Nat} (h : ∀ i, i < n → f i = g i) : sumZ f n = sumZ g n := by
  induction n with
  | zero => rfl
  | succ n ih => simp only [sumZ]; rw [ih (fun i hi => h i (by omega)), h n (by omega)]
end
section
theorem cR_no {ix yo ce : Nat → Nat} {sv : Nat → Nat → Nat} {S i : Nat} (h : S.testBit i = false) : (fun y => cR ix yo ce sv S y i) = fun y => cR ix yo ce sv S y (i + 1) := by
  funext y; simp [cR, sumZ, h]
theorem cR_yes {ix yo ce : Nat → Nat} {sv : Nat → Nat → Nat} {S i : Nat} (h : S.testBit i = true) : va_up (fun y => cR ix yo ce sv S y i) (yo i) (cR ix yo ce sv S (yo i) i + (((ce i * ix (yo i) / 1000 : Nat) : Int) - ((sW yo sv S i i : Nat) : Int))) = fun y => cR ix yo ce sv S y (i + 1) := by
  funext y
  by_cases e : y = yo i
  · subst e; rw [va_up_self]; simp [cR, sumZ, h]
  · rw [va_up_ne _ _ e]; simp [cR, sumZ, h, Ne.symm e]
theorem mz_up {f : Nat → Int} {i : Nat} : va_up (fun y => if y < i then mz (f y) else f y) i (mz (f i)) = fun y => if y < i + 1 then mz (f y) else f y := by
  funext y
  by_cases e : y = i
  · subst e; rw [va_up_self, if_pos (Nat.lt_succ_self _)]
  · rw [va_up_ne _ _ e]
    by_cases h : y < i
    · rw [if_pos h, if_pos (by omega)]
    · rw [if_neg h, if_neg (by omega)]
theorem cS_all {ix yo ce : Nat → Nat} {sv : Nat → Nat → Nat} {S nw nY : Nat} (h : ∀ w, yo w < nY) : (fun y => if y < nY then mz (cR ix yo ce sv S y nw) else cR ix yo ce sv S y nw) = cS ix yo ce sv nw S := by
  funext y
  unfold cS
  split
  · rfl
  · rename_i h1
    have e : cR ix yo ce sv S y nw = 0 := by
      unfold cR
      have q : ∀ n, sumZ (fun w => if S.testBit w && decide (yo w = y) then ((ce w * ix y / 1000 : Nat) : Int) - ((sW yo sv S w w : Nat) : Int) else 0) n = 0 := by
        intro n
        induction n with
        | zero => rfl
        | succ n ih =>
          simp only [sumZ, ih]
          have := h n
          rw [if_neg (by simp; intro _; omega)]
          rfl
      exact q nw
    rw [e]; rfl
section FI
variable {V : gV} {ad r1 r2 r3 : Nat → Nat} {nY : Nat} {ix bu : Nat → Nat} {np : Nat} {st sr : Nat → Nat} {sx tk : Nat → Nat → Nat} {rn sh sn : Nat → Nat} {yw nw : Nat} {yo ce wo : Nat → Nat} {po ne : Nat → Option Nat} {cs : Nat → Nat} {sv : Nat → Nat → Nat} {mk : Nat} {sp rs : Nat → Int} {bg dp : Nat}
theorem C_fill_sp (l : Launch) : mWv l y_Ar_fillI (w_Ar_fillI :: gt) rm_Ar_fillI V (wC V ad r1 r2 r3 nY ix bu np st sr sx tk rn sh sn yw nw yo ce wo po ne cs sv mk sp rs bg dp) [.ref (ad 20), .int (nI 0)] (wC V ad r1 r2 r3 nY ix bu np st sr sx tk rn sh sn yw nw yo ce wo po ne cs sv mk (fun _ => 0) rs bg dp) 0 0 := by
  have q := C_fillI l (V := V) (w := wC V ad r1 r2 r3 nY ix bu np st sr sx tk rn sh sn yw nw yo ce wo po ne cs sv mk sp rs bg dp) 20 (ad 20) 12 (fun j => iI (sp j)) (nI 0) rfl (by decide)
  rw [show (fun (_ : Nat) => nI 0) = fun _ => iI 0 from funext fun _ => nI_iI 0] at q
  exact q
theorem C_fill_rn (l : Launch) : mWv l y_Ar_fillI (w_Ar_fillI :: gt) rm_Ar_fillI V (wC V ad r1 r2 r3 nY ix bu np st sr sx tk rn sh sn yw nw yo ce wo po ne cs sv mk sp rs bg dp) [.ref (ad 9), .int (nI 0)] (wC V ad r1 r2 r3 nY ix bu np st sr sx tk (fun _ => 0) sh sn yw nw yo ce wo po ne cs sv mk sp rs bg dp) 0 0 := C_fillI l (V := V) (w := wC V ad r1 r2 r3 nY ix bu np st sr sx tk rn sh sn yw nw yo ce wo po ne cs sv mk sp rs bg dp) 9 (ad 9) 12 (fun j => nI (rn j)) (nI 0) rfl (by decide)
theorem C_fill_sh (l : Launch) : mWv l y_Ar_fillJ (w_Ar_fillJ :: gt) rm_Ar_fillJ V (wC V ad r1 r2 r3 nY ix bu np st sr sx tk rn sh sn yw nw yo ce wo po ne cs sv mk sp rs bg dp) [.ref (ad 10), .long (lN 0)] (wC V ad r1 r2 r3 nY ix bu np st sr sx tk rn (fun _ => 0) sn yw nw yo ce wo po ne cs sv mk sp rs bg dp) 0 0 := C_fillJ l (V := V) (w := wC V ad r1 r2 r3 nY ix bu np st sr sx tk rn sh sn yw nw yo ce wo po ne cs sv mk sp rs bg dp) 10 (ad 10) 4 (fun j => lN (sh j)) (lN 0) rfl (by decide)
end FI

set_option maxHeartbeats 4000000 in
set_option maxRecDepth 100000 in
theorem C_Wo_worthOf (l : Launch) {V : gV} {ad r1 r2 r3 : Nat → Nat} {nY : Nat} {ix bu : Nat → Nat} {np : Nat} {st sr : Nat → Nat} {sx tk : Nat → Nat → Nat} {rn sh sn : Nat → Nat} {yw nw : Nat} {yo ce wo : Nat → Nat} {po ne : Nat → Option Nat} {cs : Nat → Nat} {sv : Nat → Nat → Nat} {mk : Nat} {sp rs : Nat → Int} {bg dp : Nat} (S : Nat) (hS : S < 2 ^ 31) (hnw : nw ≤ 10) : mPi l y_Wo_worthOf (w_Wo_worthOf :: gt) rm_Wo_worthOf V (wC V ad r1 r2 r3 nY ix bu np st sr sx tk rn sh sn yw nw yo ce wo po ne cs sv mk sp rs bg dp) [.ref (ad 12), .int (nI S)] (nI (wS wo S nw)) := by
  refine gMet (V := V) (As := [.ref (ad 12), .int (nI S)]) (cc := c_Wo_worthOf) (maxL := 4) (ret := (some .int)) (by decide) rfl (Nat.le_of_ble_eq_true rfl) (fun a U h => ⟨h.1, h.2.2⟩) ?_
  intro p e s m below meth c E hr hlk hnm hv
  have hO := gO_r (locs1 := []) (ws := wC V ad r1 r2 r3 nY ix bu np st sr sx tk rn sh sn yw nw yo ce wo po ne cs sv mk sp rs bg dp) hv.2.1
  refine g_iconst (v := nI 0) E d_Wo_worthOf_0 (by decide) ?_
  refine g_istore_n (lv' := [(2, .int (nI 0)), (0, .ref (ad 12)), (1, .int (nI S))]) E d_Wo_worthOf_1 rfl (by decide) rfl ?_
  refine g_iconst (v := nI 0) E d_Wo_worthOf_2 (by decide) ?_
  refine g_istore_n (lv' := [(3, .int (nI 0)), (2, .int (nI 0)), (0, .ref (ad 12)), (1, .int (nI S))]) E d_Wo_worthOf_3 rfl (by decide) rfl ?_
  refine g_lv [0, 1, 2, 3] rfl ?_
  refine gloop (α := Nat × Nat) (fun a_ => gR s.heap []) (fun a_ => [(3, .int (nI a_.1)), (2, .int (nI a_.2)), (0, .ref (ad 12)), (1, .int (nI S))]) (fun a_ => a_.1 ≤ nw ∧ a_.2 = wS wo S a_.1) (fun a_ => nw - a_.1) (0, 0) (⟨Nat.zero_le _, rfl⟩) ?_
  rintro ⟨i, acc⟩ hI_4 ih_4
  try dsimp only at hI_4 ih_4 ⊢
  refine g_iload_n E d_Wo_worthOf_4 rfl 0 rfl ?_
  refine g_aload_n E d_Wo_worthOf_5 rfl 2 rfl ?_
  refine gf_Wo_44 E hO 12 rfl rfl d_Wo_worthOf_6 ?_
  refine g_ncmp_ge E 35 d_Wo_worthOf_9 (by decide) (by omega) (by omega) (fun h1 => ?_) (fun h1 => ?_)
  · refine g_iload_n E d_Wo_worthOf_35 rfl 1 rfl ?_
    exact g_iret E hr hlk d_Wo_worthOf_36 (gq_i (by rw [hI_4.2, show i = nw by omega]))
  · refine g_iload_n E d_Wo_worthOf_12 rfl 3 rfl ?_
    refine g_iload_n E d_Wo_worthOf_13 rfl 0 rfl ?_
    refine gpNi (As := [.int (nI S), .int (nI i)]) (rest := []) E hO (C_CY_holds l S i (by omega) (by omega)) (cs_Wo_48 E rfl rfl ⟨Nat.le_of_ble_eq_true rfl, Nat.le_of_ble_eq_true rfl⟩) rfl rfl (Nat.le_of_ble_eq_true rfl) ⟨Nat.zero_le _, Nat.zero_le _⟩ d_Wo_worthOf_14 ?_
    refine g_bif_eq E 29 d_Wo_worthOf_17 (by decide) (fun h2 => ?_) (fun h2 => ?_)
    · refine g_iinc (lv' := [(3, .int (nI (i + 1))), (2, .int (nI acc)), (0, .ref (ad 12)), (1, .int (nI S))]) E d_Wo_worthOf_29 0 rfl (nI_inc _) (by decide) rfl ?_
      refine g_goto E 4 d_Wo_worthOf_32 (by decide) ?_
      refine g_lv [0, 1, 2, 3] rfl ?_
      exact ih_4 (i + 1, acc) (⟨by (try dsimp only); omega, by (try dsimp only); rw [hI_4.2]; simp [wS, sumN, h2]⟩) (by (try dsimp only); omega)
    · refine g_iload_n E d_Wo_worthOf_20 rfl 1 rfl ?_
      refine g_aload_n E d_Wo_worthOf_21 rfl 2 rfl ?_
      refine gf_Wo_18 E hO 12 rfl rfl d_Wo_worthOf_22 ?_
      refine g_iload_n E d_Wo_worthOf_25 rfl 0 rfl ?_
      refine g_ldN E hO 15 rfl (by omega) (by decide) d_Wo_worthOf_26 ?_
      refine g_iadd E d_Wo_worthOf_27 ?_
      refine g_topi (nI_add _ _) ?_
      refine g_istore_n (lv' := [(2, .int (nI (acc + (wo i)))), (3, .int (nI i)), (0, .ref (ad 12)), (1, .int (nI S))]) E d_Wo_worthOf_28 rfl (by decide) rfl ?_
      refine g_iinc (lv' := [(3, .int (nI (i + 1))), (2, .int (nI (acc + (wo i)))), (0, .ref (ad 12)), (1, .int (nI S))]) E d_Wo_worthOf_29 1 rfl (nI_inc _) (by decide) rfl ?_
      refine g_goto E 4 d_Wo_worthOf_32 (by decide) ?_
      refine g_lv [0, 1, 2, 3] rfl ?_
      exact ih_4 (i + 1, acc + (wo i)) (⟨by (try dsimp only); omega, by (try dsimp only); rw [hI_4.2]; simp [wS, sumN, h2]⟩) (by (try dsimp only); omega)

set_option maxHeartbeats 4000000 in
set_option maxRecDepth 100000 in
theorem C_Wo_lacksNeeded (l : Launch) {V : gV} {ad r1 r2 r3 : Nat → Nat} {nY : Nat} {ix bu : Nat → Nat} {np : Nat} {st sr : Nat → Nat} {sx tk : Nat → Nat → Nat} {rn sh sn : Nat → Nat} {yw nw : Nat} {yo ce wo : Nat → Nat} {po ne : Nat → Option Nat} {cs : Nat → Nat} {sv : Nat → Nat → Nat} {mk : Nat} {sp rs : Nat → Int} {bg dp : Nat} (k S : Nat) (hk : k < 10) (hS : S < 2 ^ 31) (hne : ∀ w q, ne w = some q → q < 10) (hyo : ∀ w, yo w < 12) : mPi l y_Wo_lacksNeeded (w_Wo_lacksNeeded :: gt) rm_Wo_lacksNeeded V (wC V ad r1 r2 r3 nY ix bu np st sr sx tk rn sh sn yw nw yo ce wo po ne cs sv mk sp rs bg dp) [.ref (ad 12), .int (nI k), .int (nI S)] (bI (nB ne yo S k)) := by
  refine gMet (V := V) (As := [.ref (ad 12), .int (nI k), .int (nI S)]) (cc := c_Wo_lacksNeeded) (maxL := 4) (ret := (some .boolean)) (by decide) rfl (Nat.le_of_ble_eq_true rfl) (fun a U h => ⟨h.1, h.2.2⟩) ?_
  intro p e s m below meth c E hr hlk hnm hv
  have hO := gO_r (locs1 := []) (ws := wC V ad r1 r2 r3 nY ix bu np st sr sx tk rn sh sn yw nw yo ce wo po ne cs sv mk sp rs bg dp) hv.2.1
  rcases hz : ne k with _ | q
  · refine g_aload_n E d_Wo_lacksNeeded_0 rfl 0 rfl ?_
    refine gf_Wo_24 E hO 12 rfl rfl d_Wo_lacksNeeded_1 ?_
    refine g_iload_n E d_Wo_lacksNeeded_4 rfl 1 rfl ?_
    refine g_ldO E hO 17 rfl (by omega) (by decide) d_Wo_lacksNeeded_5 ?_
    refine g_topi (congrArg oN hz) ?_
    refine g_istore_n (lv' := [(3, .int (oN none)), (0, .ref (ad 12)), (1, .int (nI k)), (2, .int (nI S))]) E d_Wo_lacksNeeded_6 rfl (by decide) rfl ?_
    refine g_iload_n E d_Wo_lacksNeeded_7 rfl 0 rfl ?_
    refine g_iconst (v := oN none) E d_Wo_lacksNeeded_8 (by decide) ?_
    refine g_icmp_eq E 39 d_Wo_lacksNeeded_9 (by decide) (fun h1 => ?_) (fun h1 => ?_)
    · refine g_iconst (v := nI 0) E d_Wo_lacksNeeded_39 (by decide) ?_
      exact g_zret E hr hlk d_Wo_lacksNeeded_40 (Or.inl rfl) (gq_i (by simp [nB, hz, bI, nI_0]))
    · exact absurd rfl h1
  · have hq := hne k q hz
    have y1 := hyo k
    have y2 := hyo q
    refine g_aload_n E d_Wo_lacksNeeded_0 rfl 0 rfl ?_
    refine gf_Wo_24 E hO 12 rfl rfl d_Wo_lacksNeeded_1 ?_
    refine g_iload_n E d_Wo_lacksNeeded_4 rfl 1 rfl ?_
    refine g_ldO E hO 17 rfl (by omega) (by decide) d_Wo_lacksNeeded_5 ?_
    refine g_topi ((congrArg oN hz).trans (show oN (some q) = nI q from rfl)) ?_
    refine g_istore_n (lv' := [(3, .int (nI q)), (0, .ref (ad 12)), (1, .int (nI k)), (2, .int (nI S))]) E d_Wo_lacksNeeded_6 rfl (by decide) rfl ?_
    refine g_iload_n E d_Wo_lacksNeeded_7 rfl 0 rfl ?_
    refine g_iconst (v := oN none) E d_Wo_lacksNeeded_8 (by decide) ?_
    refine g_icmp_eq E 39 d_Wo_lacksNeeded_9 (by decide) (fun h1 => ?_) (fun h1 => ?_)
    · exact absurd h1 (by intro z; have := congrArg Int32.toInt z; rw [nI_toInt (by omega)] at this; have h2 : (oN none).toInt = -1 := (by decide); omega)
    · refine g_iload_n E d_Wo_lacksNeeded_12 rfl 3 rfl ?_
      refine g_iload_n E d_Wo_lacksNeeded_13 rfl 0 rfl ?_
      refine gpNi (As := [.int (nI S), .int (nI q)]) (rest := []) E hO (C_CY_holds l S q (by omega) (by omega)) (cs_Wo_48 E rfl rfl ⟨Nat.le_of_ble_eq_true rfl, Nat.le_of_ble_eq_true rfl⟩) rfl rfl (Nat.le_of_ble_eq_true rfl) ⟨Nat.zero_le _, Nat.zero_le _⟩ d_Wo_lacksNeeded_14 ?_
      refine g_bif_eq E 35 d_Wo_lacksNeeded_17 (by decide) (fun h2 => ?_) (fun h2 => ?_)
      · refine g_iconst (v := nI 1) E d_Wo_lacksNeeded_35 (by decide) ?_
        refine g_goto E 40 d_Wo_lacksNeeded_36 (by decide) ?_
        exact g_zret E hr hlk d_Wo_lacksNeeded_40 (Or.inr rfl) (gq_i (by simp [nB, hz, bI, nI_0, nI_c1, h2]))
      · refine g_aload_n E d_Wo_lacksNeeded_20 rfl 1 rfl ?_
        refine gf_Wo_11 E hO 12 rfl rfl d_Wo_lacksNeeded_21 ?_
        refine g_iload_n E d_Wo_lacksNeeded_24 rfl 2 rfl ?_
        refine g_ldN E hO 13 rfl (by omega) (by decide) d_Wo_lacksNeeded_25 ?_
        refine g_aload_n E d_Wo_lacksNeeded_26 rfl 1 rfl ?_
        refine gf_Wo_11 E hO 12 rfl rfl d_Wo_lacksNeeded_27 ?_
        refine g_iload_n E d_Wo_lacksNeeded_30 rfl 0 rfl ?_
        refine g_ldN E hO 13 rfl (by omega) (by decide) d_Wo_lacksNeeded_31 ?_
        refine g_ncmp_ge E 39 d_Wo_lacksNeeded_32 (by decide) (by omega) (by omega) (fun h3 => ?_) (fun h3 => ?_)
        · refine g_iconst (v := nI 0) E d_Wo_lacksNeeded_39 (by decide) ?_
          exact g_zret E hr hlk d_Wo_lacksNeeded_40 (Or.inl rfl) (gq_i (by simp [nB, hz, bI, nI_0, nI_c1, h2, h3]; try omega))
        · refine g_iconst (v := nI 1) E d_Wo_lacksNeeded_35 (by decide) ?_
          refine g_goto E 40 d_Wo_lacksNeeded_36 (by decide) ?_
          exact g_zret E hr hlk d_Wo_lacksNeeded_40 (Or.inr rfl) (gq_i (by simp [nB, hz, bI, nI_0, nI_c1, h2, h3]; try omega))

set_option maxHeartbeats 4000000 in
set_option maxRecDepth 100000 in
theorem C_Wo_agree (l : Launch) {V : gV} {ad r1 r2 r3 : Nat → Nat} {nY : Nat} {ix bu : Nat → Nat} {np : Nat} {st sr : Nat → Nat} {sx tk : Nat → Nat → Nat} {rn sh sn : Nat → Nat} {yw nw : Nat} {yo ce wo : Nat → Nat} {po ne : Nat → Option Nat} {cs : Nat → Nat} {sv : Nat → Nat → Nat} {mk : Nat} {sp rs : Nat → Int} {bg dp : Nat} (S : Nat) (hS : S < 1024) (hnw : nw ≤ 10) (hcs : ∀ w, cs w < 1024) (hne : ∀ w q, ne w = some q → q < 10) (hyo : ∀ w, yo w < 12) : mPi l y_Wo_agree (w_Wo_agree :: gt) rm_Wo_agree V (wC V ad r1 r2 r3 nY ix bu np st sr sx tk rn sh sn yw nw yo ce wo po ne cs sv mk sp rs bg dp) [.ref (ad 12), .int (nI S)] (bI (allN (agW cs ne yo S) nw)) := by
  refine gMet (V := V) (As := [.ref (ad 12), .int (nI S)]) (cc := c_Wo_agree) (maxL := 3) (ret := (some .boolean)) (by decide) rfl (Nat.le_of_ble_eq_true rfl) (fun a U h => ⟨h.1, h.2.2⟩) ?_
  intro p e s m below meth c E hr hlk hnm hv
  have hO := gO_r (locs1 := []) (ws := wC V ad r1 r2 r3 nY ix bu np st sr sx tk rn sh sn yw nw yo ce wo po ne cs sv mk sp rs bg dp) hv.2.1
  refine g_iconst (v := nI 0) E d_Wo_agree_0 (by decide) ?_
  refine g_istore_n (lv' := [(2, .int (nI 0)), (0, .ref (ad 12)), (1, .int (nI S))]) E d_Wo_agree_1 rfl (by decide) rfl ?_
  refine g_lv [0, 1, 2] rfl ?_
  refine gloop (α := Nat) (fun a_ => gR s.heap []) (fun a_ => [(2, .int (nI a_)), (0, .ref (ad 12)), (1, .int (nI S))]) (fun a_ => a_ ≤ nw ∧ ∀ j, j < a_ → agW cs ne yo S j = true) (fun a_ => nw - a_) (0) (⟨Nat.zero_le _, fun j hj => absurd hj (Nat.not_lt_zero _)⟩) ?_
  rintro i hI_2 ih_2
  try dsimp only at hI_2 ih_2 ⊢
  refine g_iload_n E d_Wo_agree_2 rfl 0 rfl ?_
  refine g_aload_n E d_Wo_agree_3 rfl 1 rfl ?_
  refine gf_Wo_44 E hO 12 rfl rfl d_Wo_agree_4 ?_
  refine g_ncmp_ge E 46 d_Wo_agree_7 (by decide) (by first | omega | exact Nat.lt_of_le_of_lt Nat.and_le_right (by omega)) (by first | omega | exact Nat.lt_of_le_of_lt Nat.and_le_right (by omega)) (fun h1 => ?_) (fun h1 => ?_)
  · refine g_iconst (v := nI 1) E d_Wo_agree_46 (by decide) ?_
    exact g_zret E hr hlk d_Wo_agree_47 (Or.inr rfl) (gq_i (by rw [allN_iff.mpr (fun j hj => hI_2.2 j (by omega))]; rfl))
  · refine g_iload_n E d_Wo_agree_10 rfl 2 rfl ?_
    refine g_iload_n E d_Wo_agree_11 rfl 0 rfl ?_
    refine gpNi (As := [.int (nI S), .int (nI i)]) (rest := []) E hO (C_CY_holds l S i (by omega) (by omega)) (cs_Wo_48 E rfl rfl ⟨Nat.le_of_ble_eq_true rfl, Nat.le_of_ble_eq_true rfl⟩) rfl rfl (Nat.le_of_ble_eq_true rfl) ⟨Nat.zero_le _, Nat.zero_le _⟩ d_Wo_agree_12 ?_
    refine g_bif_eq E 40 d_Wo_agree_15 (by decide) (fun h2 => ?_) (fun h2 => ?_)
    · refine g_iinc (lv' := [(2, .int (nI (i + 1))), (0, .ref (ad 12)), (1, .int (nI S))]) E d_Wo_agree_40 0 rfl (nI_inc _) (by decide) rfl ?_
      refine g_goto E 2 d_Wo_agree_43 (by decide) ?_
      refine g_lv [0, 1, 2] rfl ?_
      exact ih_2 (i + 1) (⟨by (try dsimp only); omega, lt_s hI_2.2 (by simp [agW, h2])⟩) (by (try dsimp only); omega)
    · refine g_aload_n E d_Wo_agree_18 rfl 1 rfl ?_
      refine gf_Wo_27 E hO 12 rfl rfl d_Wo_agree_19 ?_
      refine g_iload_n E d_Wo_agree_22 rfl 0 rfl ?_
      refine g_ldN E hO 18 rfl (by omega) (by decide) d_Wo_agree_23 ?_
      refine g_iload_n E d_Wo_agree_24 rfl 2 rfl ?_
      refine g_iand E d_Wo_agree_25 ?_
      refine g_topi (nI_and _ _) ?_
      refine g_nif_ne E 38 d_Wo_agree_26 (by decide) (by first | omega | exact Nat.lt_of_le_of_lt Nat.and_le_right (by omega)) (fun h3 => ?_) (fun h3 => ?_)
      · refine g_iconst (v := nI 0) E d_Wo_agree_38 (by decide) ?_
        exact g_zret E hr hlk d_Wo_agree_39 (Or.inl rfl) (gq_i (by rw [allN_false (i := i) (by omega) (by simp [agW, h2, h3])]; rfl))
      · refine g_aload_n E d_Wo_agree_29 rfl 1 rfl ?_
        refine g_iload_n E d_Wo_agree_30 rfl 0 rfl ?_
        refine g_iload_n E d_Wo_agree_31 rfl 2 rfl ?_
        refine gpVi (As := [.int (nI i), .int (nI S)]) (rest := []) E hO 12 rfl rfl (C_Wo_lacksNeeded l i S (by omega) (by omega) hne hyo) (cs_Wo_52 E rfl rfl ⟨Nat.le_of_ble_eq_true rfl, Nat.le_of_ble_eq_true rfl⟩) rfl rfl (Nat.le_of_ble_eq_true rfl) ⟨Nat.zero_le _, Nat.zero_le _⟩ d_Wo_agree_32 ?_
        refine g_bif_eq E 40 d_Wo_agree_35 (by decide) (fun h4 => ?_) (fun h4 => ?_)
        · refine g_iinc (lv' := [(2, .int (nI (i + 1))), (0, .ref (ad 12)), (1, .int (nI S))]) E d_Wo_agree_40 0 rfl (nI_inc _) (by decide) rfl ?_
          refine g_goto E 2 d_Wo_agree_43 (by decide) ?_
          refine g_lv [0, 1, 2] rfl ?_
          exact ih_2 (i + 1) (⟨by (try dsimp only); omega, lt_s hI_2.2 (by simp [agW, h2, h3, h4])⟩) (by (try dsimp only); omega)
        · refine g_iconst (v := nI 0) E d_Wo_agree_38 (by decide) ?_
          exact g_zret E hr hlk d_Wo_agree_39 (Or.inl rfl) (gq_i (by rw [allN_false (i := i) (by omega) (by simp [agW, h2, h3, h4])]; rfl))

set_option maxHeartbeats 4000000 in
set_option maxRecDepth 100000 in
theorem C_Wo_savedWithEarlier (l : Launch) {V : gV} {ad r1 r2 r3 : Nat → Nat} {nY : Nat} {ix bu : Nat → Nat} {np : Nat} {st sr : Nat → Nat} {sx tk : Nat → Nat → Nat} {rn sh sn : Nat → Nat} {yw nw : Nat} {yo ce wo : Nat → Nat} {po ne : Nat → Option Nat} {cs : Nat → Nat} {sv : Nat → Nat → Nat} {mk : Nat} {sp rs : Nat → Int} {bg dp : Nat} (k S : Nat) (hk : k < 10) (hS : S < 1024) (hyo : ∀ w, yo w < 12) : mPi l y_Wo_savedWithEarlier (w_Wo_savedWithEarlier :: gt) rm_Wo_savedWithEarlier V (wC V ad r1 r2 r3 nY ix bu np st sr sx tk rn sh sn yw nw yo ce wo po ne cs sv mk sp rs bg dp) [.ref (ad 12), .int (nI k), .int (nI S)] (nI (sW yo sv S k k)) := by
  refine gMet (V := V) (As := [.ref (ad 12), .int (nI k), .int (nI S)]) (cc := c_Wo_savedWithEarlier) (maxL := 5) (ret := (some .int)) (by decide) rfl (Nat.le_of_ble_eq_true rfl) (fun a U h => ⟨h.1, h.2.2⟩) ?_
  intro p e s m below meth c E hr hlk hnm hv
  have hO := gO_r (locs1 := []) (ws := wC V ad r1 r2 r3 nY ix bu np st sr sx tk rn sh sn yw nw yo ce wo po ne cs sv mk sp rs bg dp) hv.2.1
  refine g_iconst (v := nI 0) E d_Wo_savedWithEarlier_0 (by decide) ?_
  refine g_istore_n (lv' := [(3, .int (nI 0)), (0, .ref (ad 12)), (1, .int (nI k)), (2, .int (nI S))]) E d_Wo_savedWithEarlier_1 rfl (by decide) rfl ?_
  refine g_iconst (v := nI 0) E d_Wo_savedWithEarlier_2 (by decide) ?_
  refine g_istore (lv' := [(4, .int (nI 0)), (3, .int (nI 0)), (0, .ref (ad 12)), (1, .int (nI k)), (2, .int (nI S))]) E d_Wo_savedWithEarlier_3 (by decide) rfl ?_
  refine g_lv [0, 1, 2, 3, 4] rfl ?_
  refine gloop (α := Nat × Nat) (fun a_ => gR s.heap []) (fun a_ => [(4, .int (nI a_.1)), (3, .int (nI a_.2)), (0, .ref (ad 12)), (1, .int (nI k)), (2, .int (nI S))]) (fun a_ => a_.1 ≤ k ∧ a_.2 = sW yo sv S k a_.1) (fun a_ => k - a_.1) (0, 0) (⟨Nat.zero_le _, rfl⟩) ?_
  rintro ⟨i, acc⟩ hI_5 ih_5
  try dsimp only at hI_5 ih_5 ⊢
  refine g_iload E d_Wo_savedWithEarlier_5 0 rfl ?_
  refine g_iload_n E d_Wo_savedWithEarlier_7 rfl 3 rfl ?_
  refine g_ncmp_ge E 54 d_Wo_savedWithEarlier_8 (by decide) (by omega) (by omega) (fun h1 => ?_) (fun h1 => ?_)
  · refine g_iload_n E d_Wo_savedWithEarlier_54 rfl 1 rfl ?_
    exact g_iret E hr hlk d_Wo_savedWithEarlier_55 (gq_i (by rw [hI_5.2, show i = k by omega]))
  · refine g_iload_n E d_Wo_savedWithEarlier_11 rfl 4 rfl ?_
    refine g_iload E d_Wo_savedWithEarlier_12 0 rfl ?_
    refine gpNi (As := [.int (nI S), .int (nI i)]) (rest := []) E hO (C_CY_holds l S i (by omega) (by omega)) (cs_Wo_48 E rfl rfl ⟨Nat.le_of_ble_eq_true rfl, Nat.le_of_ble_eq_true rfl⟩) rfl rfl (Nat.le_of_ble_eq_true rfl) ⟨Nat.zero_le _, Nat.zero_le _⟩ d_Wo_savedWithEarlier_14 ?_
    refine g_bif_eq E 48 d_Wo_savedWithEarlier_17 (by decide) (fun h2 => ?_) (fun h2 => ?_)
    · refine g_iinc (lv' := [(4, .int (nI (i + 1))), (3, .int (nI acc)), (0, .ref (ad 12)), (1, .int (nI k)), (2, .int (nI S))]) E d_Wo_savedWithEarlier_48 0 rfl (nI_inc _) (by decide) rfl ?_
      refine g_goto E 5 d_Wo_savedWithEarlier_51 (by decide) ?_
      refine g_lv [0, 1, 2, 3, 4] rfl ?_
      exact ih_5 (i + 1, acc) (⟨by (try dsimp only); omega, by (try dsimp only); rw [hI_5.2]; simp [sW, sumN, h2]⟩) (by (try dsimp only); omega)
    · refine g_aload_n E d_Wo_savedWithEarlier_20 rfl 2 rfl ?_
      refine gf_Wo_11 E hO 12 rfl rfl d_Wo_savedWithEarlier_21 ?_
      refine g_iload E d_Wo_savedWithEarlier_24 0 rfl ?_
      refine g_ldN E hO 13 rfl (by omega) (by decide) d_Wo_savedWithEarlier_26 ?_
      refine g_aload_n E d_Wo_savedWithEarlier_27 rfl 2 rfl ?_
      refine gf_Wo_11 E hO 12 rfl rfl d_Wo_savedWithEarlier_28 ?_
      refine g_iload_n E d_Wo_savedWithEarlier_31 rfl 3 rfl ?_
      refine g_ldN E hO 13 rfl (by omega) (by decide) d_Wo_savedWithEarlier_32 ?_
      have y1 := hyo i; have y2 := hyo k
      refine g_ncmp_ne E 48 d_Wo_savedWithEarlier_33 (by decide) (by omega) (by omega) (fun h3 => ?_) (fun h3 => ?_)
      · refine g_iinc (lv' := [(4, .int (nI (i + 1))), (3, .int (nI acc)), (0, .ref (ad 12)), (1, .int (nI k)), (2, .int (nI S))]) E d_Wo_savedWithEarlier_48 0 rfl (nI_inc _) (by decide) rfl ?_
        refine g_goto E 5 d_Wo_savedWithEarlier_51 (by decide) ?_
        refine g_lv [0, 1, 2, 3, 4] rfl ?_
        exact ih_5 (i + 1, acc) (⟨by (try dsimp only); omega, by (try dsimp only); rw [hI_5.2]; simp [sW, sumN, h2, h3]⟩) (by (try dsimp only); omega)
      · refine g_iload_n E d_Wo_savedWithEarlier_36 rfl 1 rfl ?_
        refine g_aload_n E d_Wo_savedWithEarlier_37 rfl 2 rfl ?_
        refine gf_Wo_32 E hO 12 rfl rfl d_Wo_savedWithEarlier_38 ?_
        refine g_iload_n E d_Wo_savedWithEarlier_41 rfl 3 rfl ?_
        refine g_aaload E hO 19 rfl (by omega) (by decide) d_Wo_savedWithEarlier_42 ?_
        refine g_iload E d_Wo_savedWithEarlier_43 0 rfl ?_
        refine g_ldN E hO (46 + k) (wC_g3 (by omega)) (by omega) (by decide) d_Wo_savedWithEarlier_45 ?_
        refine g_iadd E d_Wo_savedWithEarlier_46 ?_
        refine g_topi (nI_add _ _) ?_
        refine g_istore_n (lv' := [(3, .int (nI (acc + (sv k i)))), (4, .int (nI i)), (0, .ref (ad 12)), (1, .int (nI k)), (2, .int (nI S))]) E d_Wo_savedWithEarlier_47 rfl (by decide) rfl ?_
        refine g_iinc (lv' := [(4, .int (nI (i + 1))), (3, .int (nI (acc + (sv k i)))), (0, .ref (ad 12)), (1, .int (nI k)), (2, .int (nI S))]) E d_Wo_savedWithEarlier_48 1 rfl (nI_inc _) (by decide) rfl ?_
        refine g_goto E 5 d_Wo_savedWithEarlier_51 (by decide) ?_
        refine g_lv [0, 1, 2, 3, 4] rfl ?_
        exact ih_5 (i + 1, acc + (sv k i)) (⟨by (try dsimp only); omega, by (try dsimp only); rw [hI_5.2]; simp [sW, sumN, h2, h3]⟩) (by (try dsimp only); omega)

set_option maxHeartbeats 4000000 in
set_option maxRecDepth 100000 in
theorem C_Wo_spentInAll (l : Launch) {V : gV} {ad r1 r2 r3 : Nat → Nat} {nY : Nat} {ix bu : Nat → Nat} {np : Nat} {st sr : Nat → Nat} {sx tk : Nat → Nat → Nat} {rn sh sn : Nat → Nat} {yw nw : Nat} {yo ce wo : Nat → Nat} {po ne : Nat → Option Nat} {cs : Nat → Nat} {sv : Nat → Nat → Nat} {mk : Nat} {sp rs : Nat → Int} {bg dp : Nat} (hY : nY ≤ 12) : mPi l y_Wo_spentInAll (w_Wo_spentInAll :: gt) rm_Wo_spentInAll V (wC V ad r1 r2 r3 nY ix bu np st sr sx tk rn sh sn yw nw yo ce wo po ne cs sv mk sp rs bg dp) [.ref (ad 12)] (iI (sumZ sp nY)) := by
  refine gMet (V := V) (As := [.ref (ad 12)]) (cc := c_Wo_spentInAll) (maxL := 3) (ret := (some .int)) (by decide) rfl (Nat.le_of_ble_eq_true rfl) (fun a U h => ⟨h.1, h.2.2⟩) ?_
  intro p e s m below meth c E hr hlk hnm hv
  have hO := gO_r (locs1 := []) (ws := wC V ad r1 r2 r3 nY ix bu np st sr sx tk rn sh sn yw nw yo ce wo po ne cs sv mk sp rs bg dp) hv.2.1
  refine g_iconst (v := nI 0) E d_Wo_spentInAll_0 (by decide) ?_
  refine g_topi (nI_iI 0) ?_
  refine g_istore_n (lv' := [(1, .int (iI ((0 : Nat) : Int))), (0, .ref (ad 12))]) E d_Wo_spentInAll_1 rfl (by decide) rfl ?_
  refine g_iconst (v := nI 0) E d_Wo_spentInAll_2 (by decide) ?_
  refine g_istore_n (lv' := [(2, .int (nI 0)), (1, .int (iI ((0 : Nat) : Int))), (0, .ref (ad 12))]) E d_Wo_spentInAll_3 rfl (by decide) rfl ?_
  refine g_lv [0, 1, 2] rfl ?_
  refine gloop (α := Nat × Int) (fun a_ => gR s.heap []) (fun a_ => [(2, .int (nI a_.1)), (1, .int (iI a_.2)), (0, .ref (ad 12))]) (fun a_ => a_.1 ≤ nY ∧ a_.2 = sumZ sp a_.1) (fun a_ => nY - a_.1) (0, 0) (⟨Nat.zero_le _, rfl⟩) ?_
  rintro ⟨i, acc⟩ hI_4 ih_4
  try dsimp only at hI_4 ih_4 ⊢
  refine g_iload_n E d_Wo_spentInAll_4 rfl 0 rfl ?_
  refine g_aload_n E d_Wo_spentInAll_5 rfl 2 rfl ?_
  refine gf_Wo_40 E hO 12 rfl rfl d_Wo_spentInAll_6 ?_
  refine gf_Wo_68 E hO 1 rfl rfl d_Wo_spentInAll_9 ?_
  refine g_ncmp_ge E 30 d_Wo_spentInAll_12 (by decide) (by omega) (by omega) (fun h1 => ?_) (fun h1 => ?_)
  · refine g_iload_n E d_Wo_spentInAll_30 rfl 1 rfl ?_
    exact g_iret E hr hlk d_Wo_spentInAll_31 (gq_i (by rw [hI_4.2, show i = nY by omega]))
  · refine g_iload_n E d_Wo_spentInAll_15 rfl 1 rfl ?_
    refine g_aload_n E d_Wo_spentInAll_16 rfl 2 rfl ?_
    refine gf_Wo_37 E hO 12 rfl rfl d_Wo_spentInAll_17 ?_
    refine g_iload_n E d_Wo_spentInAll_20 rfl 0 rfl ?_
    refine g_ldI E hO 20 rfl (by omega) (by decide) d_Wo_spentInAll_21 ?_
    refine g_iadd E d_Wo_spentInAll_22 ?_
    refine g_topi (iI_add _ _) ?_
    refine g_istore_n (lv' := [(1, .int (iI (acc + (sp i)))), (2, .int (nI i)), (0, .ref (ad 12))]) E d_Wo_spentInAll_23 rfl (by decide) rfl ?_
    refine g_iinc (lv' := [(2, .int (nI (i + 1))), (1, .int (iI (acc + (sp i)))), (0, .ref (ad 12))]) E d_Wo_spentInAll_24 1 rfl (nI_inc _) (by decide) rfl ?_
    refine g_goto E 4 d_Wo_spentInAll_27 (by decide) ?_
    refine g_lv [0, 1, 2] rfl ?_
    exact ih_4 (i + 1, acc + (sp i)) (⟨by (try dsimp only); omega, by (try dsimp only); rw [hI_4.2]; rfl⟩) (by (try dsimp only); omega)

set_option maxHeartbeats 4000000 in
set_option maxRecDepth 100000 in
theorem C_Wo_spentOverBudgets (l : Launch) {V : gV} {ad r1 r2 r3 : Nat → Nat} {nY : Nat} {ix bu : Nat → Nat} {np : Nat} {st sr : Nat → Nat} {sx tk : Nat → Nat → Nat} {rn sh sn : Nat → Nat} {yw nw : Nat} {yo ce wo : Nat → Nat} {po ne : Nat → Option Nat} {cs : Nat → Nat} {sv : Nat → Nat → Nat} {mk : Nat} {sp rs : Nat → Int} {bg dp : Nat} (hY : nY ≤ 12) (hsp : ∀ y, y < 12 → -100000000 ≤ sp y ∧ sp y ≤ 100000000) (hbu : ∀ y, bu y ≤ 1000000000) : mPi l y_Wo_spentOverBudgets (w_Wo_spentOverBudgets :: gt) rm_Wo_spentOverBudgets V (wC V ad r1 r2 r3 nY ix bu np st sr sx tk rn sh sn yw nw yo ce wo po ne cs sv mk sp rs bg dp) [.ref (ad 12)] (iI (oB bu sp nY)) := by
  refine gMet (V := V) (As := [.ref (ad 12)]) (cc := c_Wo_spentOverBudgets) (maxL := 3) (ret := (some .int)) (by decide) rfl (Nat.le_of_ble_eq_true rfl) (fun a U h => ⟨h.1, h.2.2⟩) ?_
  intro p e s m below meth c E hr hlk hnm hv
  have hO := gO_r (locs1 := []) (ws := wC V ad r1 r2 r3 nY ix bu np st sr sx tk rn sh sn yw nw yo ce wo po ne cs sv mk sp rs bg dp) hv.2.1
  refine g_iconst (v := nI 0) E d_Wo_spentOverBudgets_0 (by decide) ?_
  refine g_topi (nI_iI 0) ?_
  refine g_istore_n (lv' := [(1, .int (iI ((0 : Nat) : Int))), (0, .ref (ad 12))]) E d_Wo_spentOverBudgets_1 rfl (by decide) rfl ?_
  refine g_iconst (v := nI 0) E d_Wo_spentOverBudgets_2 (by decide) ?_
  refine g_istore_n (lv' := [(2, .int (nI 0)), (1, .int (iI ((0 : Nat) : Int))), (0, .ref (ad 12))]) E d_Wo_spentOverBudgets_3 rfl (by decide) rfl ?_
  refine g_lv [0, 1, 2] rfl ?_
  refine gloop (α := Nat × Int) (fun a_ => gR s.heap []) (fun a_ => [(2, .int (nI a_.1)), (1, .int (iI a_.2)), (0, .ref (ad 12))]) (fun a_ => a_.1 ≤ nY ∧ a_.2 = oB bu sp a_.1) (fun a_ => nY - a_.1) (0, 0) (⟨Nat.zero_le _, rfl⟩) ?_
  rintro ⟨i, acc⟩ hI_4 ih_4
  try dsimp only at hI_4 ih_4 ⊢
  refine g_iload_n E d_Wo_spentOverBudgets_4 rfl 0 rfl ?_
  refine g_aload_n E d_Wo_spentOverBudgets_5 rfl 2 rfl ?_
  refine gf_Wo_40 E hO 12 rfl rfl d_Wo_spentOverBudgets_6 ?_
  refine gf_Wo_68 E hO 1 rfl rfl d_Wo_spentOverBudgets_9 ?_
  refine g_ncmp_ge E 44 d_Wo_spentOverBudgets_12 (by decide) (by omega) (by omega) (fun h1 => ?_) (fun h1 => ?_)
  · refine g_iload_n E d_Wo_spentOverBudgets_44 rfl 1 rfl ?_
    exact g_iret E hr hlk d_Wo_spentOverBudgets_45 (gq_i (by rw [hI_4.2, show i = nY by omega]))
  · refine g_iload_n E d_Wo_spentOverBudgets_15 rfl 1 rfl ?_
    refine g_aload_n E d_Wo_spentOverBudgets_16 rfl 2 rfl ?_
    refine gf_Wo_37 E hO 12 rfl rfl d_Wo_spentOverBudgets_17 ?_
    refine g_iload_n E d_Wo_spentOverBudgets_20 rfl 0 rfl ?_
    refine g_ldI E hO 20 rfl (by omega) (by decide) d_Wo_spentOverBudgets_21 ?_
    refine g_aload_n E d_Wo_spentOverBudgets_22 rfl 2 rfl ?_
    refine gf_Wo_40 E hO 12 rfl rfl d_Wo_spentOverBudgets_23 ?_
    refine gf_Wo_74 E hO 1 rfl rfl d_Wo_spentOverBudgets_26 ?_
    refine g_iload_n E d_Wo_spentOverBudgets_29 rfl 0 rfl ?_
    refine g_ldN E hO 3 rfl (by omega) (by decide) d_Wo_spentOverBudgets_30 ?_
    have q1 := hsp i (by omega)
    have q2 := hbu i
    refine g_isub E d_Wo_spentOverBudgets_31 ?_
    refine g_topi (by rw [nI_iI, iI_sub]) ?_
    refine g_iconst (v := nI 0) E d_Wo_spentOverBudgets_32 (by decide) ?_
    refine g_maxI E kl_Wo_69 (Nat.le_of_ble_eq_true rfl) (Nat.le_of_ble_eq_true rfl) (Nat.zero_le _) (Nat.zero_le _) d_Wo_spentOverBudgets_33 ?_
    refine g_topi (max_mz (by omega) (by omega)) ?_
    refine g_iadd E d_Wo_spentOverBudgets_36 ?_
    refine g_topi (iI_add _ _) ?_
    refine g_istore_n (lv' := [(1, .int (iI (acc + (mz (sp i - (bu i : Int)))))), (2, .int (nI i)), (0, .ref (ad 12))]) E d_Wo_spentOverBudgets_37 rfl (by decide) rfl ?_
    refine g_iinc (lv' := [(2, .int (nI (i + 1))), (1, .int (iI (acc + (mz (sp i - (bu i : Int)))))), (0, .ref (ad 12))]) E d_Wo_spentOverBudgets_38 1 rfl (nI_inc _) (by decide) rfl ?_
    refine g_goto E 4 d_Wo_spentOverBudgets_41 (by decide) ?_
    refine g_lv [0, 1, 2] rfl ?_
    exact ih_4 (i + 1, acc + (mz (sp i - (bu i : Int)))) (⟨by (try dsimp only); omega, by (try dsimp only); rw [hI_4.2]; rfl⟩) (by (try dsimp only); omega)

set_option maxHeartbeats 4000000 in
set_option maxRecDepth 100000 in
theorem C_Wo_spend (l : Launch) {V : gV} {ad r1 r2 r3 : Nat → Nat} {nY : Nat} {ix bu : Nat → Nat} {np : Nat} {st sr : Nat → Nat} {sx tk : Nat → Nat → Nat} {rn sh sn : Nat → Nat} {yw nw : Nat} {yo ce wo : Nat → Nat} {po ne : Nat → Option Nat} {cs : Nat → Nat} {sv : Nat → Nat → Nat} {mk : Nat} {sp rs : Nat → Int} {bg dp : Nat} (S : Nat) (hS : S < 1024) (hnw : nw ≤ 10) (hY : nY ≤ 12) (hyY : ∀ w, yo w < nY) (hyo : ∀ w, yo w < 12) (hix : ∀ y, ix y ≤ 2000) (hce : ∀ w, ce w ≤ 1000000) (hsv : ∀ a b, sv a b ≤ 1000000) : mWv l y_Wo_spend (w_Wo_spend :: gt) rm_Wo_spend V (wC V ad r1 r2 r3 nY ix bu np st sr sx tk rn sh sn yw nw yo ce wo po ne cs sv mk sp rs bg dp) [.ref (ad 12), .int (nI S)] (wC V ad r1 r2 r3 nY ix bu np st sr sx tk rn sh sn yw nw yo ce wo po ne cs sv mk (cS ix yo ce sv nw S) rs bg dp) 0 0 := by
  intro sz
  refine gMet (V := V) (As := [.ref (ad 12), .int (nI S)]) (cc := c_Wo_spend) (maxL := 4) (ret := none) (by decide) rfl (Nat.le_of_ble_eq_true rfl) (fun a U h => ⟨h.1, h.2.2.2.1⟩) ?_
  intro p e s m below meth c E hr hlk hnm hv
  refine g_toW (sz := sz) (w := wC V ad r1 r2 r3 nY ix bu np st sr sx tk rn sh sn yw nw yo ce wo po ne cs sv mk sp rs bg dp) hv.2.2.1 hv.2.2.2.2 ?_
  have hA0 : ∀ q : Nat, s.heap.size ≤ q → va_A (wC V ad r1 r2 r3 nY ix bu np st sr sx tk rn sh sn yw nw yo ce wo po ne cs sv mk sp rs bg dp) sz q := fun q h => Or.inr (by rw [← hv.2.1]; exact h)
  refine g_aload_n E d_Wo_spend_0 rfl 0 rfl ?_
  refine gf_Wo_37 E gO_w 12 rfl rfl d_Wo_spend_1 ?_
  refine g_iconst (v := nI 0) E d_Wo_spend_4 (by decide) ?_
  refine gwSv (As := [.ref (ad 20), .int (nI 0)]) (rest := []) (w' := wC V ad r1 r2 r3 nY ix bu np st sr sx tk rn sh sn yw nw yo ce wo po ne cs sv mk (fun _ => 0) rs bg dp) (mc := 0) (ms := 0) E hA0 (C_fill_sp l) (cs_Wo_55 E rfl rfl ⟨Nat.le_of_ble_eq_true rfl, Nat.le_of_ble_eq_true rfl⟩) rfl rfl (Nat.le_of_ble_eq_true rfl) ⟨Nat.zero_le _, Nat.zero_le _⟩ d_Wo_spend_5 ?_
  refine g_iconst (v := nI 0) E d_Wo_spend_8 (by decide) ?_
  refine g_istore_n (lv' := [(2, .int (nI 0)), (0, .ref (ad 12)), (1, .int (nI S))]) E d_Wo_spend_9 rfl (by decide) rfl ?_
  refine g_lv [0, 1, 2] rfl ?_
  refine gloop (α := Nat) (fun a_ => gW V _ _ (wC V ad r1 r2 r3 nY ix bu np st sr sx tk rn sh sn yw nw yo ce wo po ne cs sv mk (fun y => cR ix yo ce sv S y a_) rs bg dp)) (fun a_ => [(2, .int (nI a_)), (0, .ref (ad 12)), (1, .int (nI S))]) (fun a_ => a_ ≤ nw) (fun a_ => nw - a_) (0) (Nat.zero_le _) ?_
  rintro i hI_10 ih_10
  try dsimp only at hI_10 ih_10 ⊢
  refine g_iload_n E d_Wo_spend_10 rfl 0 rfl ?_
  refine g_aload_n E d_Wo_spend_11 rfl 1 rfl ?_
  refine gf_Wo_44 E gO_w 12 rfl rfl d_Wo_spend_12 ?_
  refine g_ncmp_ge E 69 d_Wo_spend_15 (by decide) (by omega) (by omega) (fun h1 => ?_) (fun h1 => ?_)
  · refine g_iconst (v := nI 0) E d_Wo_spend_69 (by decide) ?_
    refine g_istore_n (lv' := [(2, .int (nI 0)), (0, .ref (ad 12)), (1, .int (nI S))]) E d_Wo_spend_70 rfl (by decide) rfl ?_
    refine g_lv [0, 1, 2] rfl ?_
    refine g_ws (ws' := wC V ad r1 r2 r3 nY ix bu np st sr sx tk rn sh sn yw nw yo ce wo po ne cs sv mk (fun y => if y < 0 then mz (cR ix yo ce sv S y nw) else cR ix yo ce sv S y nw) rs bg dp) (by simp only [Nat.not_lt_zero, if_false]; rw [show i = nw by omega]) ?_
    refine gloop (α := Nat) (fun a_ => gW V _ _ (wC V ad r1 r2 r3 nY ix bu np st sr sx tk rn sh sn yw nw yo ce wo po ne cs sv mk (fun y => if y < a_ then mz (cR ix yo ce sv S y nw) else cR ix yo ce sv S y nw) rs bg dp)) (fun a_ => [(2, .int (nI a_)), (0, .ref (ad 12)), (1, .int (nI S))]) (fun a_ => a_ ≤ nY) (fun a_ => nY - a_) (0) (Nat.zero_le _) ?_
    rintro i hI_71 ih_71
    try dsimp only at hI_71 ih_71 ⊢
    refine g_iload_n E d_Wo_spend_71 rfl 0 rfl ?_
    refine g_aload_n E d_Wo_spend_72 rfl 1 rfl ?_
    refine gf_Wo_40 E gO_w 12 rfl rfl d_Wo_spend_73 ?_
    refine gf_Wo_68 E gO_w 1 rfl rfl d_Wo_spend_76 ?_
    refine g_ncmp_ge E 104 d_Wo_spend_79 (by decide) (by omega) (by omega) (fun h2 => ?_) (fun h2 => ?_)
    · refine g_ws (ws' := wC V ad r1 r2 r3 nY ix bu np st sr sx tk rn sh sn yw nw yo ce wo po ne cs sv mk (cS ix yo ce sv nw S) rs bg dp) (by rw [show i = nY by omega, cS_all hyY]) ?_
      exact g_vret E hr hlk d_Wo_spend_104 (gq_wv (w1 := fun _ => wC V ad r1 r2 r3 nY ix bu np st sr sx tk rn sh sn yw nw yo ce wo po ne cs sv mk (cS ix yo ce sv nw S) rs bg dp) () trivial)
    · refine g_aload_n E d_Wo_spend_82 rfl 1 rfl ?_
      refine gf_Wo_37 E gO_w 12 rfl rfl d_Wo_spend_83 ?_
      refine g_iload_n E d_Wo_spend_86 rfl 0 rfl ?_
      refine g_aload_n E d_Wo_spend_87 rfl 1 rfl ?_
      refine gf_Wo_37 E gO_w 12 rfl rfl d_Wo_spend_88 ?_
      refine g_iload_n E d_Wo_spend_91 rfl 0 rfl ?_
      refine g_ldI E gO_w 20 rfl (by omega) (by decide) d_Wo_spend_92 ?_
      refine g_topi (by rw [if_neg (Nat.lt_irrefl i)]) ?_
      refine g_iconst (v := nI 0) E d_Wo_spend_93 (by decide) ?_
      have b1 := cR_abs (yo := yo) (ce := ce) (S := S) (y := i) hnw hix hce hsv
      refine g_maxI E kl_Wo_69 (Nat.le_of_ble_eq_true rfl) (Nat.le_of_ble_eq_true rfl) (Nat.zero_le _) (Nat.zero_le _) d_Wo_spend_94 ?_
      refine g_topi (max_mz (by omega) (by omega)) ?_
      refine g_stI (ws' := wC V ad r1 r2 r3 nY ix bu np st sr sx tk rn sh sn yw nw yo ce wo po ne cs sv mk (va_up (fun y => if y < i then mz (cR ix yo ce sv S y nw) else cR ix yo ce sv S y nw) i (mz (cR ix yo ce sv S i nw))) rs bg dp) E 20 rfl (by omega) (by decide) rfl d_Wo_spend_97 ?_
      refine g_iinc (lv' := [(2, .int (nI (i + 1))), (0, .ref (ad 12)), (1, .int (nI S))]) E d_Wo_spend_98 0 rfl (nI_inc _) (by decide) rfl ?_
      refine g_goto E 71 d_Wo_spend_101 (by decide) ?_
      refine g_lv [0, 1, 2] rfl ?_
      refine g_ws (ws' := wC V ad r1 r2 r3 nY ix bu np st sr sx tk rn sh sn yw nw yo ce wo po ne cs sv mk (fun y => if y < i + 1 then mz (cR ix yo ce sv S y nw) else cR ix yo ce sv S y nw) rs bg dp) (by rw [mz_up]) ?_
      exact ih_71 (i + 1) (by (try dsimp only); omega) (by (try dsimp only); omega)
  · refine g_iload_n E d_Wo_spend_18 rfl 2 rfl ?_
    refine g_iload_n E d_Wo_spend_19 rfl 0 rfl ?_
    refine gpNi (As := [.int (nI S), .int (nI i)]) (rest := []) E gO_w (C_CY_holds l S i (by omega) (by omega)) (cs_Wo_48 E rfl rfl ⟨Nat.le_of_ble_eq_true rfl, Nat.le_of_ble_eq_true rfl⟩) rfl rfl (Nat.le_of_ble_eq_true rfl) ⟨Nat.zero_le _, Nat.zero_le _⟩ d_Wo_spend_20 ?_
    refine g_bif_eq E 63 d_Wo_spend_23 (by decide) (fun h3 => ?_) (fun h3 => ?_)
    · refine g_iinc (lv' := [(2, .int (nI (i + 1))), (0, .ref (ad 12)), (1, .int (nI S))]) E d_Wo_spend_63 0 rfl (nI_inc _) (by decide) rfl ?_
      refine g_goto E 10 d_Wo_spend_66 (by decide) ?_
      refine g_lv [0, 1, 2] rfl ?_
      refine g_ws (ws' := wC V ad r1 r2 r3 nY ix bu np st sr sx tk rn sh sn yw nw yo ce wo po ne cs sv mk (fun y => cR ix yo ce sv S y (i + 1)) rs bg dp) (by rw [cR_no h3]) ?_
      exact ih_10 (i + 1) (by (try dsimp only); omega) (by (try dsimp only); omega)
    · have y1 := hyo i
      have y2 := hix (yo i)
      have y3 := hce i
      refine g_aload_n E d_Wo_spend_26 rfl 1 rfl ?_
      refine gf_Wo_11 E gO_w 12 rfl rfl d_Wo_spend_27 ?_
      refine g_iload_n E d_Wo_spend_30 rfl 0 rfl ?_
      refine g_ldN E gO_w 13 rfl (by omega) (by decide) d_Wo_spend_31 ?_
      refine g_istore_n (lv' := [(3, .int (nI (yo i))), (2, .int (nI i)), (0, .ref (ad 12)), (1, .int (nI S))]) E d_Wo_spend_32 rfl (by decide) rfl ?_
      refine g_aload_n E d_Wo_spend_33 rfl 2 rfl ?_
      refine gf_Wo_37 E gO_w 12 rfl rfl d_Wo_spend_34 ?_
      refine g_iload_n E d_Wo_spend_37 rfl 0 rfl ?_
      refine g_dup2 E d_Wo_spend_38 rfl rfl ?_
      refine g_ldI E gO_w 20 rfl (by omega) (by decide) d_Wo_spend_39 ?_
      refine g_aload_n E d_Wo_spend_40 rfl 2 rfl ?_
      refine gf_Wo_40 E gO_w 12 rfl rfl d_Wo_spend_41 ?_
      refine g_iload_n E d_Wo_spend_44 rfl 0 rfl ?_
      refine g_aload_n E d_Wo_spend_45 rfl 2 rfl ?_
      refine gf_Wo_15 E gO_w 12 rfl rfl d_Wo_spend_46 ?_
      refine g_iload_n E d_Wo_spend_49 rfl 1 rfl ?_
      refine g_ldN E gO_w 14 rfl (by omega) (by decide) d_Wo_spend_50 ?_
      refine gpVi (As := [.int (nI (yo i)), .int (nI (ce i))]) (rest := [.int (iI (cR ix yo ce sv S (yo i) i)), .int (nI (yo i)), .ref (ad 20)]) E gO_w 1 rfl rfl (C_Ye_costIn l (yo i) (ce i) (by omega) (by omega) (by omega)) (cs_Wo_61 E rfl rfl ⟨Nat.le_of_ble_eq_true rfl, Nat.le_of_ble_eq_true rfl⟩) rfl rfl (Nat.le_of_ble_eq_true rfl) ⟨Nat.zero_le _, Nat.zero_le _⟩ d_Wo_spend_51 ?_
      refine g_aload_n E d_Wo_spend_54 rfl 2 rfl ?_
      refine g_iload_n E d_Wo_spend_55 rfl 1 rfl ?_
      refine g_iload_n E d_Wo_spend_56 rfl 3 rfl ?_
      refine gpVi (As := [.int (nI i), .int (nI S)]) (rest := [.int (nI ((ce i) * ix (yo i) / 1000)), .int (iI (cR ix yo ce sv S (yo i) i)), .int (nI (yo i)), .ref (ad 20)]) E gO_w 12 rfl rfl (C_Wo_savedWithEarlier l i S (by omega) (by omega) hyo) (cs_Wo_65 E rfl rfl ⟨Nat.le_of_ble_eq_true rfl, Nat.le_of_ble_eq_true rfl⟩) rfl rfl (Nat.le_of_ble_eq_true rfl) ⟨Nat.zero_le _, Nat.zero_le _⟩ d_Wo_spend_57 ?_
      refine g_isub E d_Wo_spend_60 ?_
      refine g_topi (nI_subI _ _) ?_
      refine g_iadd E d_Wo_spend_61 ?_
      refine g_topi (iI_add _ _) ?_
      refine g_stI (ws' := wC V ad r1 r2 r3 nY ix bu np st sr sx tk rn sh sn yw nw yo ce wo po ne cs sv mk (va_up (fun y => cR ix yo ce sv S y i) (yo i) ((cR ix yo ce sv S (yo i) i) + (((((ce i) * ix (yo i) / 1000) : Nat) : Int) - (((sW yo sv S i i) : Nat) : Int)))) rs bg dp) E 20 rfl (by omega) (by decide) rfl d_Wo_spend_62 ?_
      refine g_iinc (lv' := [(2, .int (nI (i + 1))), (3, .int (nI (yo i))), (0, .ref (ad 12)), (1, .int (nI S))]) E d_Wo_spend_63 1 rfl (nI_inc _) (by decide) rfl ?_
      refine g_goto E 10 d_Wo_spend_66 (by decide) ?_
      refine g_lv [0, 2, 3] rfl ?_
      refine g_ws (ws' := wC V ad r1 r2 r3 nY ix bu np st sr sx tk rn sh sn yw nw yo ce wo po ne cs sv mk (fun y => cR ix yo ce sv S y (i + 1)) rs bg dp) (by rw [cR_yes h3]) ?_
      exact ih_10 (i + 1) (by (try dsimp only); omega) (by (try dsimp only); omega)
end
section
section GZ
variable {p : Program} {l : Launch} {e : Env} {R : Room} {s : State} {m : MethodId} {args : Array Value} {below : List Frame} {meth : Method} {c : Code} {V : gV} {nL : Nat} {Q : State → Prop} {cells slots : Nat} {om : Heap → List Loc → Prop} {lv : List (Nat × Value)} {pc : Nat} {rest : List Value} {cc : ByteArray} {own : String}
theorem g_zcmp_eq (E : gE p s m args c cc nL own V) {a b : Int} {off : Int} (tgt : Nat) (hd : decode cc pc = .ok (.if_icmp .eq off, 3)) (ht : (pc : Int) + off = (tgt : Int)) (ha1 : -2147483648 ≤ a) (ha2 : a < 2147483648) (hb1 : -2147483648 ≤ b) (hb2 : b < 2147483648) (kt : a = b → gg p l e R s m args below meth c nL Q cells slots om lv tgt rest) (kf : a ≠ b → gg p l e R s m args below meth c nL Q cells slots om lv (pc + 3) rest) : gg p l e R s m args below meth c nL Q cells slots om lv pc (.int (iI b) :: .int (iI a) :: rest) := g_icmp_eq E tgt hd ht (fun q => kt ((iI_eq ha1 ha2 hb1 hb2).mp q)) (fun q => kf (fun z => q ((iI_eq ha1 ha2 hb1 hb2).mpr z)))
theorem g_zcmp_ne (E : gE p s m args c cc nL own V) {a b : Int} {off : Int} (tgt : Nat) (hd : decode cc pc = .ok (.if_icmp .ne off, 3)) (ht : (pc : Int) + off = (tgt : Int)) (ha1 : -2147483648 ≤ a) (ha2 : a < 2147483648) (hb1 : -2147483648 ≤ b) (hb2 : b < 2147483648) (kt : a ≠ b → gg p l e R s m args below meth c nL Q cells slots om lv tgt rest) (kf : a = b → gg p l e R s m args below meth c nL Q cells slots om lv (pc + 3) rest) : gg p l e R s m args below meth c nL Q cells slots om lv pc (.int (iI b) :: .int (iI a) :: rest) := g_icmp_ne E tgt hd ht (fun q => kt (fun z => q ((iI_eq ha1 ha2 hb1 hb2).mpr z))) (fun q => kf ((iI_eq ha1 ha2 hb1 hb2).mp q))
theorem g_zcmp_lt (E : gE p s m args c cc nL own V) {a b : Int} {off : Int} (tgt : Nat) (hd : decode cc pc = .ok (.if_icmp .lt off, 3)) (ht : (pc : Int) + off = (tgt : Int)) (ha1 : -2147483648 ≤ a) (ha2 : a < 2147483648) (hb1 : -2147483648 ≤ b) (hb2 : b < 2147483648) (kt : a < b → gg p l e R s m args below meth c nL Q cells slots om lv tgt rest) (kf : b ≤ a → gg p l e R s m args below meth c nL Q cells slots om lv (pc + 3) rest) : gg p l e R s m args below meth c nL Q cells slots om lv pc (.int (iI b) :: .int (iI a) :: rest) := g_icmp_lt E tgt hd ht (fun q => kt ((iI_lt ha1 ha2 hb1 hb2).mp q)) (fun q => kf (by have z := mt (iI_lt ha1 ha2 hb1 hb2).mpr q; omega))
theorem g_zcmp_ge (E : gE p s m args c cc nL own V) {a b : Int} {off : Int} (tgt : Nat) (hd : decode cc pc = .ok (.if_icmp .ge off, 3)) (ht : (pc : Int) + off = (tgt : Int)) (ha1 : -2147483648 ≤ a) (ha2 : a < 2147483648) (hb1 : -2147483648 ≤ b) (hb2 : b < 2147483648) (kt : b ≤ a → gg p l e R s m args below meth c nL Q cells slots om lv tgt rest) (kf : a < b → gg p l e R s m args below meth c nL Q cells slots om lv (pc + 3) rest) : gg p l e R s m args below meth c nL Q cells slots om lv pc (.int (iI b) :: .int (iI a) :: rest) := g_icmp_ge E tgt hd ht (fun q => kt ((iI_le hb1 hb2 ha1 ha2).mp q)) (fun q => kf (by have z := mt (iI_le hb1 hb2 ha1 ha2).mpr q; omega))
theorem g_zcmp_gt (E : gE p s m args c cc nL own V) {a b : Int} {off : Int} (tgt : Nat) (hd : decode cc pc = .ok (.if_icmp .gt off, 3)) (ht : (pc : Int) + off = (tgt : Int)) (ha1 : -2147483648 ≤ a) (ha2 : a < 2147483648) (hb1 : -2147483648 ≤ b) (hb2 : b < 2147483648) (kt : b < a → gg p l e R s m args below meth c nL Q cells slots om lv tgt rest) (kf : a ≤ b → gg p l e R s m args below meth c nL Q cells slots om lv (pc + 3) rest) : gg p l e R s m args below meth c nL Q cells slots om lv pc (.int (iI b) :: .int (iI a) :: rest) := g_icmp_gt E tgt hd ht (fun q => kt ((iI_lt hb1 hb2 ha1 ha2).mp q)) (fun q => kf (by have z := mt (iI_lt hb1 hb2 ha1 ha2).mpr q; omega))
theorem g_zcmp_le (E : gE p s m args c cc nL own V) {a b : Int} {off : Int} (tgt : Nat) (hd : decode cc pc = .ok (.if_icmp .le off, 3)) (ht : (pc : Int) + off = (tgt : Int)) (ha1 : -2147483648 ≤ a) (ha2 : a < 2147483648) (hb1 : -2147483648 ≤ b) (hb2 : b < 2147483648) (kt : a ≤ b → gg p l e R s m args below meth c nL Q cells slots om lv tgt rest) (kf : b < a → gg p l e R s m args below meth c nL Q cells slots om lv (pc + 3) rest) : gg p l e R s m args below meth c nL Q cells slots om lv pc (.int (iI b) :: .int (iI a) :: rest) := g_icmp_le E tgt hd ht (fun q => kt ((iI_le ha1 ha2 hb1 hb2).mp q)) (fun q => kf (by have z := mt (iI_le ha1 ha2 hb1 hb2).mpr q; omega))
theorem z0_eq {a : Int} (h1 : -2147483648 ≤ a) (h2 : a < 2147483648) : iI a = 0 ↔ a = 0 := by rw [show (0 : Int32) = iI 0 from rfl]; exact iI_eq h1 h2 (by decide) (by decide)
theorem g_zif_ne (E : gE p s m args c cc nL own V) {a : Int} {off : Int} (tgt : Nat) (hd : decode cc pc = .ok (.ifCond .ne off, 3)) (ht : (pc : Int) + off = (tgt : Int)) (h1 : -2147483648 ≤ a) (h2 : a < 2147483648) (kt : a ≠ 0 → gg p l e R s m args below meth c nL Q cells slots om lv tgt rest) (kf : a = 0 → gg p l e R s m args below meth c nL Q cells slots om lv (pc + 3) rest) : gg p l e R s m args below meth c nL Q cells slots om lv pc (.int (iI a) :: rest) := g_if_ne E tgt hd ht (fun q => kt (fun z => q ((z0_eq h1 h2).mpr z))) (fun q => kf ((z0_eq h1 h2).mp q))
theorem lI_lt {a b : Int} (ha1 : -9223372036854775808 ≤ a) (ha2 : a < 9223372036854775808) (hb1 : -9223372036854775808 ≤ b) (hb2 : b < 9223372036854775808) : lI a < lI b ↔ a < b := by rw [Int64.lt_iff_toInt_lt, lI_toInt ha1 ha2, lI_toInt hb1 hb2]
theorem lI_eq {a b : Int} (ha1 : -9223372036854775808 ≤ a) (ha2 : a < 9223372036854775808) (hb1 : -9223372036854775808 ≤ b) (hb2 : b < 9223372036854775808) : lI a = lI b ↔ a = b := by
  constructor
  · intro h
    have := congrArg Int64.toInt h
    rwa [lI_toInt ha1 ha2, lI_toInt hb1 hb2] at this
  · rintro rfl; rfl
/-- a compare of longs, and the branch on it -/
theorem lg_lt {x y : Int64} : lg_cmp x y < 0 ↔ x < y := by
  unfold lg_cmp
  by_cases h1 : y < x
  · have h2 : ¬ x < y := by rw [Int64.lt_iff_toInt_lt] at *; omega
    simp [h1, h2]
  · by_cases h2 : x < y
    · have h3 : ¬ x = y := fun q => by subst q; exact h1 h2
      simp [h1, h2, h3]
    · have h3 : x = y := Int64.toInt.inj (by rw [Int64.lt_iff_toInt_lt] at h1 h2; omega)
      subst h3; simp [h1]
theorem lg_gt {x y : Int64} : 0 < lg_cmp x y ↔ y < x := by
  unfold lg_cmp
  by_cases h1 : y < x
  · simp [h1]
  · by_cases h2 : x < y
    · have h3 : ¬ x = y := fun q => by subst q; exact h1 h2
      simp [h1, h3]
    · have h3 : x = y := Int64.toInt.inj (by rw [Int64.lt_iff_toInt_lt] at h1 h2; omega)
      subst h3; simp [h1]
theorem lg_eq {x y : Int64} : lg_cmp x y = 0 ↔ x = y := by
  constructor
  · intro h
    have a1 : ¬ x < y := fun q => absurd (lg_lt.mpr q) (by rw [h]; decide)
    have a2 : ¬ y < x := fun q => absurd (lg_gt.mpr q) (by rw [h]; decide)
    exact Int64.toInt.inj (by rw [Int64.lt_iff_toInt_lt] at a1 a2; omega)
  · rintro rfl
    have a1 : ¬ x < x := by rw [Int64.lt_iff_toInt_lt]; omega
    simp [lg_cmp, a1]
end GZ
/-! The choice: the sets in the order of their numbers. -/
def chS (wv : Nat → Nat) (ag : Nat → Bool) (co ov : Nat → Int) (S : Nat) (b : Nat × Nat × Int) : Nat × Nat × Int :=
  if decide (b.2.1 ≤ wv S) && ag S && (decide (b.2.1 < wv S) || decide (co S < b.2.2)) && decide (ov S = 0) then (S, wv S, co S) else b
def chN (wv : Nat → Nat) (ag : Nat → Bool) (co ov : Nat → Int) : Nat → Nat × Nat × Int
  | 0 => (0, 0, 0)
  | n + 1 => chS wv ag co ov (n + 1) (chN wv ag co ov n)
def spN (wv : Nat → Nat) (ag : Nat → Bool) (co ov : Nat → Int) (cc : Nat → Nat → Int) (sp : Nat → Int) : Nat → Nat → Int
  | 0 => sp
  | n + 1 => if decide ((chN wv ag co ov n).2.1 ≤ wv (n + 1)) && ag (n + 1) then cc (n + 1) else spN wv ag co ov cc sp n
theorem wS_le {wo : Nat → Nat} {S n : Nat} (h : ∀ w, wo w ≤ 1000000) : wS wo S n ≤ n * 1000000 := by
  apply sumN_le
  intro i _
  split
  · exact h _
  · omega
theorem sumZ_bd {f : Nat → Int} {M : Int} {n : Nat} (h : ∀ i, i < n → 0 ≤ f i ∧ f i ≤ M) : 0 ≤ sumZ f n ∧ sumZ f n ≤ n * M := by
  induction n with
  | zero => simp [sumZ]
  | succ n ih =>
    have h1 := ih (fun i hi => h i (by omega))
    have h2 := h n (by omega)
    have e : ((n + 1 : Nat) : Int) * M = n * M + M := by rw [Int.natCast_add, Int.add_mul]; simp
    simp only [sumZ]
    omega
theorem co_bd {f : Nat → Int} {n : Nat} (hn : n ≤ 12) (h : ∀ y, 0 ≤ f y ∧ f y ≤ 100000000) : 0 ≤ sumZ f n ∧ sumZ f n ≤ 1200000000 := by
  have := sumZ_bd (n := n) (fun i _ => h i)
  omega
theorem oB_bd {bu : Nat → Nat} {f : Nat → Int} {n : Nat} (hn : n ≤ 12) (h : ∀ y, 0 ≤ f y ∧ f y ≤ 100000000) : 0 ≤ oB bu f n ∧ oB bu f n ≤ 1200000000 := by
  unfold oB
  have := sumZ_bd (f := fun y => mz (f y - (bu y : Int))) (M := 100000000) (n := n) (fun i _ => by have := h i; unfold mz; split <;> omega)
  omega
end
section
set_option maxHeartbeats 4000000 in
set_option maxRecDepth 100000 in
theorem C_Wo_makeChoice (l : Launch) {V : gV} {ad r1 r2 r3 : Nat → Nat} {nY : Nat} {ix bu : Nat → Nat} {np : Nat} {st sr : Nat → Nat} {sx tk : Nat → Nat → Nat} {rn sh sn : Nat → Nat} {yw nw : Nat} {yo ce wo : Nat → Nat} {po ne : Nat → Option Nat} {cs : Nat → Nat} {sv : Nat → Nat → Nat} {mk : Nat} {sp rs : Nat → Int} {bg dp : Nat} (hnw : nw ≤ 10) (hY : nY ≤ 12) (hyY : ∀ w, yo w < nY) (hyo : ∀ w, yo w < 12) (hix : ∀ y, ix y ≤ 2000) (hbu : ∀ y, bu y ≤ 1000000000) (hce : ∀ w, ce w ≤ 1000000) (hwo : ∀ w, wo w ≤ 1000000) (hsv : ∀ a b, sv a b ≤ 1000000) (hcs : ∀ w, cs w < 1024) (hne : ∀ w q, ne w = some q → q < 10) : mWv l y_Wo_makeChoice (w_Wo_makeChoice :: gt) rm_Wo_makeChoice V (wC V ad r1 r2 r3 nY ix bu np st sr sx tk rn sh sn yw nw yo ce wo po ne cs sv mk sp rs bg dp) [.ref (ad 12)] (wC V ad r1 r2 r3 nY ix bu np st sr sx tk rn sh sn yw nw yo ce wo po ne cs sv ((chN (fun S => wS wo S nw) (fun S => allN (agW cs ne yo S) nw) (fun S => sumZ (cS ix yo ce sv nw S) nY) (fun S => oB bu (cS ix yo ce sv nw S) nY) (2 ^ nw - 1)).1) (spN (fun S => wS wo S nw) (fun S => allN (agW cs ne yo S) nw) (fun S => sumZ (cS ix yo ce sv nw S) nY) (fun S => oB bu (cS ix yo ce sv nw S) nY) (cS ix yo ce sv nw) sp (2 ^ nw - 1)) rs bg dp) 0 0 := by
  intro sz
  refine gMet (V := V) (As := [.ref (ad 12)]) (cc := c_Wo_makeChoice) (maxL := 9) (ret := none) (by decide) rfl (Nat.le_of_ble_eq_true rfl) (fun a U h => ⟨h.1, h.2.2.2.1⟩) ?_
  intro p e s m below meth c E hr hlk hnm hv
  refine g_toW (sz := sz) (w := wC V ad r1 r2 r3 nY ix bu np st sr sx tk rn sh sn yw nw yo ce wo po ne cs sv mk sp rs bg dp) hv.2.2.1 hv.2.2.2.2 ?_
  have hA0 : ∀ q : Nat, s.heap.size ≤ q → va_A (wC V ad r1 r2 r3 nY ix bu np st sr sx tk rn sh sn yw nw yo ce wo po ne cs sv mk sp rs bg dp) sz q := fun q h => Or.inr (by rw [← hv.2.1]; exact h)
  have hp : 2 ^ nw ≤ 2 ^ 10 := Nat.pow_le_pow_right (by decide) hnw
  have hp1 : 1 ≤ 2 ^ nw := Nat.one_le_two_pow
  have bC : ∀ S y, 0 ≤ cS ix yo ce sv nw S y ∧ cS ix yo ce sv nw S y ≤ 100000000 := fun S y => cS_abs hnw hix hce hsv
  refine g_iconst (v := nI 0) E d_Wo_makeChoice_0 (by decide) ?_
  refine g_istore_n (lv' := [(1, .int (nI 0)), (0, .ref (ad 12))]) E d_Wo_makeChoice_1 rfl (by decide) rfl ?_
  refine g_iconst (v := nI 0) E d_Wo_makeChoice_2 (by decide) ?_
  refine g_istore_n (lv' := [(2, .int (nI 0)), (1, .int (nI 0)), (0, .ref (ad 12))]) E d_Wo_makeChoice_3 rfl (by decide) rfl ?_
  refine g_iconst (v := nI 0) E d_Wo_makeChoice_4 (by decide) ?_
  refine g_topi (nI_iI 0) ?_
  refine g_istore_n (lv' := [(3, .int (iI ((0 : Nat) : Int))), (2, .int (nI 0)), (1, .int (nI 0)), (0, .ref (ad 12))]) E d_Wo_makeChoice_5 rfl (by decide) rfl ?_
  refine g_aload_n E d_Wo_makeChoice_6 rfl 3 rfl ?_
  refine gpVi (As := []) (rest := []) E gO_w 12 rfl rfl (C_Wo_all l (by omega)) (cs_Wo_77 E rfl rfl ⟨Nat.le_of_ble_eq_true rfl, Nat.le_of_ble_eq_true rfl⟩) rfl rfl (Nat.le_of_ble_eq_true rfl) ⟨Nat.zero_le _, Nat.zero_le _⟩ d_Wo_makeChoice_7 ?_
  refine g_istore (lv' := [(4, .int (nI (2 ^ nw - 1))), (3, .int (iI ((0 : Nat) : Int))), (2, .int (nI 0)), (1, .int (nI 0)), (0, .ref (ad 12))]) E d_Wo_makeChoice_10 (by decide) rfl ?_
  refine g_iconst (v := nI 1) E d_Wo_makeChoice_12 (by decide) ?_
  refine g_istore (lv' := [(5, .int (nI 1)), (4, .int (nI (2 ^ nw - 1))), (3, .int (iI ((0 : Nat) : Int))), (2, .int (nI 0)), (1, .int (nI 0)), (0, .ref (ad 12))]) E d_Wo_makeChoice_13 (by decide) rfl ?_
  refine g_lv [0, 4, 3, 2, 1, 5] rfl ?_
  refine gloop (α := Nat × Nat × Nat × Int × (Nat → Int)) (fun a_ => gW V _ _ (wC V ad r1 r2 r3 nY ix bu np st sr sx tk rn sh sn yw nw yo ce wo po ne cs sv mk a_.2.2.2.2 rs bg dp)) (fun a_ => [(5, .int (nI (a_.1 + 1))), (1, .int (nI a_.2.1)), (2, .int (nI a_.2.2.1)), (3, .int (iI a_.2.2.2.1)), (4, .int (nI (2 ^ nw - 1))), (0, .ref (ad 12))]) (fun a_ => a_.1 + 1 ≤ 2 ^ nw ∧ chN (fun S => wS wo S nw) (fun S => allN (agW cs ne yo S) nw) (fun S => sumZ (cS ix yo ce sv nw S) nY) (fun S => oB bu (cS ix yo ce sv nw S) nY) a_.1 = (a_.2.1, a_.2.2.1, a_.2.2.2.1) ∧ a_.2.2.2.2 = spN (fun S => wS wo S nw) (fun S => allN (agW cs ne yo S) nw) (fun S => sumZ (cS ix yo ce sv nw S) nY) (fun S => oB bu (cS ix yo ce sv nw S) nY) (cS ix yo ce sv nw) sp a_.1 ∧ a_.2.2.1 ≤ 10000000 ∧ 0 ≤ a_.2.2.2.1 ∧ a_.2.2.2.1 ≤ 1200000000) (fun a_ => 2 ^ nw - a_.1) (0, 0, 0, ((0 : Nat) : Int), sp) (⟨hp1, rfl, rfl, by simp, by simp, by simp⟩) ?_
  rintro ⟨j, b, mm, cc, f⟩ hI_15 ih_15
  try dsimp only at hI_15 ih_15 ⊢
  refine g_iload E d_Wo_makeChoice_15 0 rfl ?_
  refine g_iload E d_Wo_makeChoice_17 4 rfl ?_
  refine g_ncmp_gt E 106 d_Wo_makeChoice_19 (by decide) (by omega) (by omega) (fun h1 => ?_) (fun h1 => ?_)
  · refine g_aload_n E d_Wo_makeChoice_106 rfl 5 rfl ?_
    refine g_iload_n E d_Wo_makeChoice_107 rfl 1 rfl ?_
    refine pf_Wo_99 (ws' := wC V ad r1 r2 r3 nY ix bu np st sr sx tk rn sh sn yw nw yo ce wo po ne cs sv b f rs bg dp) E 12 rfl rfl rfl (Nat.le_of_ble_eq_true rfl) rfl d_Wo_makeChoice_108 ?_
    refine g_ws (ws' := wC V ad r1 r2 r3 nY ix bu np st sr sx tk rn sh sn yw nw yo ce wo po ne cs sv ((chN (fun S => wS wo S nw) (fun S => allN (agW cs ne yo S) nw) (fun S => sumZ (cS ix yo ce sv nw S) nY) (fun S => oB bu (cS ix yo ce sv nw S) nY) (2 ^ nw - 1)).1) (spN (fun S => wS wo S nw) (fun S => allN (agW cs ne yo S) nw) (fun S => sumZ (cS ix yo ce sv nw S) nY) (fun S => oB bu (cS ix yo ce sv nw S) nY) (cS ix yo ce sv nw) sp (2 ^ nw - 1)) rs bg dp) (by rw [show 2 ^ nw - 1 = j by omega, hI_15.2.1, hI_15.2.2.1]) ?_
    exact g_vret E hr hlk d_Wo_makeChoice_111 (gq_wv (w1 := fun _ => wC V ad r1 r2 r3 nY ix bu np st sr sx tk rn sh sn yw nw yo ce wo po ne cs sv ((chN (fun S => wS wo S nw) (fun S => allN (agW cs ne yo S) nw) (fun S => sumZ (cS ix yo ce sv nw S) nY) (fun S => oB bu (cS ix yo ce sv nw S) nY) (2 ^ nw - 1)).1) (spN (fun S => wS wo S nw) (fun S => allN (agW cs ne yo S) nw) (fun S => sumZ (cS ix yo ce sv nw S) nY) (fun S => oB bu (cS ix yo ce sv nw S) nY) (cS ix yo ce sv nw) sp (2 ^ nw - 1)) rs bg dp) () trivial)
  · refine g_aload_n E d_Wo_makeChoice_22 rfl 5 rfl ?_
    refine g_iload E d_Wo_makeChoice_23 0 rfl ?_
    refine gpVi (As := [.int (nI (j + 1))]) (rest := []) E gO_w 12 rfl rfl (C_Wo_worthOf l (j + 1) (by omega) (by omega)) (cs_Wo_81 E rfl rfl ⟨Nat.le_of_ble_eq_true rfl, Nat.le_of_ble_eq_true rfl⟩) rfl rfl (Nat.le_of_ble_eq_true rfl) ⟨Nat.zero_le _, Nat.zero_le _⟩ d_Wo_makeChoice_25 ?_
    refine g_istore (lv' := [(6, .int (nI (wS wo (j + 1) nw))), (5, .int (nI (j + 1))), (1, .int (nI b)), (2, .int (nI mm)), (3, .int (iI cc)), (4, .int (nI (2 ^ nw - 1))), (0, .ref (ad 12))]) E d_Wo_makeChoice_28 (by decide) rfl ?_
    refine g_iload E d_Wo_makeChoice_30 0 rfl ?_
    refine g_iload_n E d_Wo_makeChoice_32 rfl 3 rfl ?_
    have b1 := wS_le (wo := wo) (S := j + 1) (n := nw) hwo
    refine g_ncmp_lt E 100 d_Wo_makeChoice_33 (by decide) (by omega) (by omega) (fun h2 => ?_) (fun h2 => ?_)
    · refine g_iinc (lv' := [(5, .int (nI ((j + 1) + 1))), (6, .int (nI (wS wo (j + 1) nw))), (1, .int (nI b)), (2, .int (nI mm)), (3, .int (iI cc)), (4, .int (nI (2 ^ nw - 1))), (0, .ref (ad 12))]) E d_Wo_makeChoice_100 1 rfl (nI_inc _) (by decide) rfl ?_
      refine g_goto E 15 d_Wo_makeChoice_103 (by decide) ?_
      refine g_lv [0, 2, 3, 4, 5, 6] rfl ?_
      exact ih_15 (j + 1, b, mm, cc, f) (⟨by (try dsimp only); omega, by (try dsimp only); rw [chN, hI_15.2.1]; simp [chS, h2]; try omega, by (try dsimp only); rw [spN, hI_15.2.1]; simp [h2, hI_15.2.2.1]; try omega, by (try dsimp only); omega, by (try dsimp only); omega, by (try dsimp only); omega⟩) (by (try dsimp only); omega)
    · refine g_aload_n E d_Wo_makeChoice_36 rfl 6 rfl ?_
      refine g_iload E d_Wo_makeChoice_37 1 rfl ?_
      refine gpVi (As := [.int (nI (j + 1))]) (rest := []) E gO_w 12 rfl rfl (C_Wo_agree l (j + 1) (by omega) (by omega) hcs hne hyo) (cs_Wo_85 E rfl rfl ⟨Nat.le_of_ble_eq_true rfl, Nat.le_of_ble_eq_true rfl⟩) rfl rfl (Nat.le_of_ble_eq_true rfl) ⟨Nat.zero_le _, Nat.zero_le _⟩ d_Wo_makeChoice_39 ?_
      refine g_bif_ne E 48 d_Wo_makeChoice_42 (by decide) (fun h3 => ?_) (fun h3 => ?_)
      · refine g_aload_n E d_Wo_makeChoice_48 rfl 6 rfl ?_
        refine g_iload E d_Wo_makeChoice_49 1 rfl ?_
        refine gwVv (As := [.int (nI (j + 1))]) (rest := []) (w' := wC V ad r1 r2 r3 nY ix bu np st sr sx tk rn sh sn yw nw yo ce wo po ne cs sv mk (cS ix yo ce sv nw (j + 1)) rs bg dp) (mc := 0) (ms := 0) E hA0 12 rfl rfl (C_Wo_spend l (j + 1) (by omega) (by omega) (by omega) hyY hyo hix hce hsv) (cs_Wo_89 E rfl rfl ⟨Nat.le_of_ble_eq_true rfl, Nat.le_of_ble_eq_true rfl⟩) rfl rfl (Nat.le_of_ble_eq_true rfl) ⟨Nat.zero_le _, Nat.zero_le _⟩ d_Wo_makeChoice_51 ?_
        refine g_aload_n E d_Wo_makeChoice_54 rfl 6 rfl ?_
        refine gpVi (As := []) (rest := []) E gO_w 12 rfl rfl (C_Wo_spentInAll l (by omega)) (cs_Wo_93 E rfl rfl ⟨Nat.le_of_ble_eq_true rfl, Nat.le_of_ble_eq_true rfl⟩) rfl rfl (Nat.le_of_ble_eq_true rfl) ⟨Nat.zero_le _, Nat.zero_le _⟩ d_Wo_makeChoice_55 ?_
        refine g_istore (lv' := [(7, .int (iI (sumZ (cS ix yo ce sv nw (j + 1)) nY))), (6, .int (nI (wS wo (j + 1) nw))), (5, .int (nI (j + 1))), (1, .int (nI b)), (2, .int (nI mm)), (3, .int (iI cc)), (4, .int (nI (2 ^ nw - 1))), (0, .ref (ad 12))]) E d_Wo_makeChoice_58 (by decide) rfl ?_
        have b2 := co_bd (n := nY) hY (bC (j + 1))
        refine g_iload E d_Wo_makeChoice_60 1 rfl ?_
        refine g_iload_n E d_Wo_makeChoice_62 rfl 4 rfl ?_
        refine g_ncmp_gt E 72 d_Wo_makeChoice_63 (by decide) (by omega) (by omega) (fun h4 => ?_) (fun h4 => ?_)
        · refine g_iconst (v := nI 1) E d_Wo_makeChoice_72 (by decide) ?_
          refine g_goto E 77 d_Wo_makeChoice_73 (by decide) ?_
          refine g_istore (lv' := [(8, .int (nI 1)), (7, .int (iI (sumZ (cS ix yo ce sv nw (j + 1)) nY))), (6, .int (nI (wS wo (j + 1) nw))), (5, .int (nI (j + 1))), (1, .int (nI b)), (2, .int (nI mm)), (3, .int (iI cc)), (4, .int (nI (2 ^ nw - 1))), (0, .ref (ad 12))]) E d_Wo_makeChoice_77 (by decide) rfl ?_
          refine g_iload E d_Wo_makeChoice_79 0 rfl ?_
          refine g_nif_eq E 100 d_Wo_makeChoice_81 (by decide) (by decide) (fun h5 => absurd h5 (by decide)) (fun _ => ?_)
          have b3 := oB_bd (bu := bu) (n := nY) hY (bC (j + 1))
          have hsp : ∀ y, y < 12 → -100000000 ≤ cS ix yo ce sv nw (j + 1) y ∧ cS ix yo ce sv nw (j + 1) y ≤ 100000000 := fun y _ => ⟨by have := bC (j + 1) y; omega, (bC (j + 1) y).2⟩
          refine g_aload_n E d_Wo_makeChoice_84 rfl 8 rfl ?_
          refine gpVi (As := []) (rest := []) E gO_w 12 rfl rfl (C_Wo_spentOverBudgets l (by omega) hsp hbu) (cs_Wo_96 E rfl rfl ⟨Nat.le_of_ble_eq_true rfl, Nat.le_of_ble_eq_true rfl⟩) rfl rfl (Nat.le_of_ble_eq_true rfl) ⟨Nat.zero_le _, Nat.zero_le _⟩ d_Wo_makeChoice_85 ?_
          refine g_zif_ne E 100 d_Wo_makeChoice_88 (by decide) (by omega) (by omega) (fun h6 => ?_) (fun h6 => ?_)
          · refine g_iinc (lv' := [(5, .int (nI ((j + 1) + 1))), (8, .int (nI 1)), (7, .int (iI (sumZ (cS ix yo ce sv nw (j + 1)) nY))), (6, .int (nI (wS wo (j + 1) nw))), (1, .int (nI b)), (2, .int (nI mm)), (3, .int (iI cc)), (4, .int (nI (2 ^ nw - 1))), (0, .ref (ad 12))]) E d_Wo_makeChoice_100 3 rfl (nI_inc _) (by decide) rfl ?_
            refine g_goto E 15 d_Wo_makeChoice_103 (by decide) ?_
            refine g_lv [0, 4, 5, 6, 7, 8] rfl ?_
            exact ih_15 (j + 1, b, mm, cc, cS ix yo ce sv nw (j + 1)) (⟨by (try dsimp only); omega, by (try dsimp only); rw [chN, hI_15.2.1]; simp [chS, h2, h3, h4, h6]; try omega, by (try dsimp only); rw [spN, hI_15.2.1]; simp [h2, h3, h4, h6, hI_15.2.2.1]; try omega, by (try dsimp only); omega, by (try dsimp only); omega, by (try dsimp only); omega⟩) (by (try dsimp only); omega)
          · refine g_iload E d_Wo_makeChoice_91 3 rfl ?_
            refine g_istore_n (lv' := [(1, .int (nI (j + 1))), (8, .int (nI 1)), (7, .int (iI (sumZ (cS ix yo ce sv nw (j + 1)) nY))), (6, .int (nI (wS wo (j + 1) nw))), (5, .int (nI (j + 1))), (2, .int (nI mm)), (3, .int (iI cc)), (4, .int (nI (2 ^ nw - 1))), (0, .ref (ad 12))]) E d_Wo_makeChoice_93 rfl (by decide) rfl ?_
            refine g_iload E d_Wo_makeChoice_94 3 rfl ?_
            refine g_istore_n (lv' := [(2, .int (nI (wS wo (j + 1) nw))), (1, .int (nI (j + 1))), (8, .int (nI 1)), (7, .int (iI (sumZ (cS ix yo ce sv nw (j + 1)) nY))), (6, .int (nI (wS wo (j + 1) nw))), (5, .int (nI (j + 1))), (3, .int (iI cc)), (4, .int (nI (2 ^ nw - 1))), (0, .ref (ad 12))]) E d_Wo_makeChoice_96 rfl (by decide) rfl ?_
            refine g_iload E d_Wo_makeChoice_97 3 rfl ?_
            refine g_istore_n (lv' := [(3, .int (iI (sumZ (cS ix yo ce sv nw (j + 1)) nY))), (2, .int (nI (wS wo (j + 1) nw))), (1, .int (nI (j + 1))), (8, .int (nI 1)), (7, .int (iI (sumZ (cS ix yo ce sv nw (j + 1)) nY))), (6, .int (nI (wS wo (j + 1) nw))), (5, .int (nI (j + 1))), (4, .int (nI (2 ^ nw - 1))), (0, .ref (ad 12))]) E d_Wo_makeChoice_99 rfl (by decide) rfl ?_
            refine g_iinc (lv' := [(5, .int (nI ((j + 1) + 1))), (3, .int (iI (sumZ (cS ix yo ce sv nw (j + 1)) nY))), (2, .int (nI (wS wo (j + 1) nw))), (1, .int (nI (j + 1))), (8, .int (nI 1)), (7, .int (iI (sumZ (cS ix yo ce sv nw (j + 1)) nY))), (6, .int (nI (wS wo (j + 1) nw))), (4, .int (nI (2 ^ nw - 1))), (0, .ref (ad 12))]) E d_Wo_makeChoice_100 6 rfl (nI_inc _) (by decide) rfl ?_
            refine g_goto E 15 d_Wo_makeChoice_103 (by decide) ?_
            refine g_lv [0, 3, 2, 1, 7, 8] rfl ?_
            exact ih_15 (j + 1, j + 1, wS wo (j + 1) nw, sumZ (cS ix yo ce sv nw (j + 1)) nY, cS ix yo ce sv nw (j + 1)) (⟨by (try dsimp only); omega, by (try dsimp only); rw [chN, hI_15.2.1]; simp [chS, h2, h3, h4, h6]; try omega, by (try dsimp only); rw [spN, hI_15.2.1]; simp [h2, h3, h4, h6, hI_15.2.2.1]; try omega, by (try dsimp only); omega, by (try dsimp only); omega, by (try dsimp only); omega⟩) (by (try dsimp only); omega)
        · refine g_iload E d_Wo_makeChoice_66 0 rfl ?_
          refine g_iload_n E d_Wo_makeChoice_68 rfl 5 rfl ?_
          refine g_zcmp_ge E 76 d_Wo_makeChoice_69 (by decide) (by omega) (by omega) (by omega) (by omega) (fun h7 => ?_) (fun h7 => ?_)
          · refine g_iconst (v := nI 0) E d_Wo_makeChoice_76 (by decide) ?_
            refine g_istore (lv' := [(8, .int (nI 0)), (7, .int (iI (sumZ (cS ix yo ce sv nw (j + 1)) nY))), (6, .int (nI (wS wo (j + 1) nw))), (5, .int (nI (j + 1))), (1, .int (nI b)), (2, .int (nI mm)), (3, .int (iI cc)), (4, .int (nI (2 ^ nw - 1))), (0, .ref (ad 12))]) E d_Wo_makeChoice_77 (by decide) rfl ?_
            refine g_iload E d_Wo_makeChoice_79 0 rfl ?_
            refine g_nif_eq E 100 d_Wo_makeChoice_81 (by decide) (by decide) (fun _ => ?_) (fun h8 => absurd h8 (by decide))
            refine g_iinc (lv' := [(5, .int (nI ((j + 1) + 1))), (8, .int (nI 0)), (7, .int (iI (sumZ (cS ix yo ce sv nw (j + 1)) nY))), (6, .int (nI (wS wo (j + 1) nw))), (1, .int (nI b)), (2, .int (nI mm)), (3, .int (iI cc)), (4, .int (nI (2 ^ nw - 1))), (0, .ref (ad 12))]) E d_Wo_makeChoice_100 3 rfl (nI_inc _) (by decide) rfl ?_
            refine g_goto E 15 d_Wo_makeChoice_103 (by decide) ?_
            refine g_lv [0, 4, 5, 6, 7, 8] rfl ?_
            exact ih_15 (j + 1, b, mm, cc, cS ix yo ce sv nw (j + 1)) (⟨by (try dsimp only); omega, by (try dsimp only); rw [chN, hI_15.2.1]; simp [chS, h2, h3, h4, h7]; try omega, by (try dsimp only); rw [spN, hI_15.2.1]; simp [h2, h3, h4, h7, hI_15.2.2.1]; try omega, by (try dsimp only); omega, by (try dsimp only); omega, by (try dsimp only); omega⟩) (by (try dsimp only); omega)
          · refine g_iconst (v := nI 1) E d_Wo_makeChoice_72 (by decide) ?_
            refine g_goto E 77 d_Wo_makeChoice_73 (by decide) ?_
            refine g_istore (lv' := [(8, .int (nI 1)), (7, .int (iI (sumZ (cS ix yo ce sv nw (j + 1)) nY))), (6, .int (nI (wS wo (j + 1) nw))), (5, .int (nI (j + 1))), (1, .int (nI b)), (2, .int (nI mm)), (3, .int (iI cc)), (4, .int (nI (2 ^ nw - 1))), (0, .ref (ad 12))]) E d_Wo_makeChoice_77 (by decide) rfl ?_
            refine g_iload E d_Wo_makeChoice_79 0 rfl ?_
            refine g_nif_eq E 100 d_Wo_makeChoice_81 (by decide) (by decide) (fun h9 => absurd h9 (by decide)) (fun _ => ?_)
            have b3 := oB_bd (bu := bu) (n := nY) hY (bC (j + 1))
            have hsp : ∀ y, y < 12 → -100000000 ≤ cS ix yo ce sv nw (j + 1) y ∧ cS ix yo ce sv nw (j + 1) y ≤ 100000000 := fun y _ => ⟨by have := bC (j + 1) y; omega, (bC (j + 1) y).2⟩
            refine g_aload_n E d_Wo_makeChoice_84 rfl 8 rfl ?_
            refine gpVi (As := []) (rest := []) E gO_w 12 rfl rfl (C_Wo_spentOverBudgets l (by omega) hsp hbu) (cs_Wo_96 E rfl rfl ⟨Nat.le_of_ble_eq_true rfl, Nat.le_of_ble_eq_true rfl⟩) rfl rfl (Nat.le_of_ble_eq_true rfl) ⟨Nat.zero_le _, Nat.zero_le _⟩ d_Wo_makeChoice_85 ?_
            refine g_zif_ne E 100 d_Wo_makeChoice_88 (by decide) (by omega) (by omega) (fun h10 => ?_) (fun h10 => ?_)
            · refine g_iinc (lv' := [(5, .int (nI ((j + 1) + 1))), (8, .int (nI 1)), (7, .int (iI (sumZ (cS ix yo ce sv nw (j + 1)) nY))), (6, .int (nI (wS wo (j + 1) nw))), (1, .int (nI b)), (2, .int (nI mm)), (3, .int (iI cc)), (4, .int (nI (2 ^ nw - 1))), (0, .ref (ad 12))]) E d_Wo_makeChoice_100 3 rfl (nI_inc _) (by decide) rfl ?_
              refine g_goto E 15 d_Wo_makeChoice_103 (by decide) ?_
              refine g_lv [0, 4, 5, 6, 7, 8] rfl ?_
              exact ih_15 (j + 1, b, mm, cc, cS ix yo ce sv nw (j + 1)) (⟨by (try dsimp only); omega, by (try dsimp only); rw [chN, hI_15.2.1]; simp [chS, h2, h3, h4, h7, h10]; try omega, by (try dsimp only); rw [spN, hI_15.2.1]; simp [h2, h3, h4, h7, h10, hI_15.2.2.1]; try omega, by (try dsimp only); omega, by (try dsimp only); omega, by (try dsimp only); omega⟩) (by (try dsimp only); omega)
            · refine g_iload E d_Wo_makeChoice_91 3 rfl ?_
              refine g_istore_n (lv' := [(1, .int (nI (j + 1))), (8, .int (nI 1)), (7, .int (iI (sumZ (cS ix yo ce sv nw (j + 1)) nY))), (6, .int (nI (wS wo (j + 1) nw))), (5, .int (nI (j + 1))), (2, .int (nI mm)), (3, .int (iI cc)), (4, .int (nI (2 ^ nw - 1))), (0, .ref (ad 12))]) E d_Wo_makeChoice_93 rfl (by decide) rfl ?_
              refine g_iload E d_Wo_makeChoice_94 3 rfl ?_
              refine g_istore_n (lv' := [(2, .int (nI (wS wo (j + 1) nw))), (1, .int (nI (j + 1))), (8, .int (nI 1)), (7, .int (iI (sumZ (cS ix yo ce sv nw (j + 1)) nY))), (6, .int (nI (wS wo (j + 1) nw))), (5, .int (nI (j + 1))), (3, .int (iI cc)), (4, .int (nI (2 ^ nw - 1))), (0, .ref (ad 12))]) E d_Wo_makeChoice_96 rfl (by decide) rfl ?_
              refine g_iload E d_Wo_makeChoice_97 3 rfl ?_
              refine g_istore_n (lv' := [(3, .int (iI (sumZ (cS ix yo ce sv nw (j + 1)) nY))), (2, .int (nI (wS wo (j + 1) nw))), (1, .int (nI (j + 1))), (8, .int (nI 1)), (7, .int (iI (sumZ (cS ix yo ce sv nw (j + 1)) nY))), (6, .int (nI (wS wo (j + 1) nw))), (5, .int (nI (j + 1))), (4, .int (nI (2 ^ nw - 1))), (0, .ref (ad 12))]) E d_Wo_makeChoice_99 rfl (by decide) rfl ?_
              refine g_iinc (lv' := [(5, .int (nI ((j + 1) + 1))), (3, .int (iI (sumZ (cS ix yo ce sv nw (j + 1)) nY))), (2, .int (nI (wS wo (j + 1) nw))), (1, .int (nI (j + 1))), (8, .int (nI 1)), (7, .int (iI (sumZ (cS ix yo ce sv nw (j + 1)) nY))), (6, .int (nI (wS wo (j + 1) nw))), (4, .int (nI (2 ^ nw - 1))), (0, .ref (ad 12))]) E d_Wo_makeChoice_100 6 rfl (nI_inc _) (by decide) rfl ?_
              refine g_goto E 15 d_Wo_makeChoice_103 (by decide) ?_
              refine g_lv [0, 3, 2, 1, 7, 8] rfl ?_
              exact ih_15 (j + 1, j + 1, wS wo (j + 1) nw, sumZ (cS ix yo ce sv nw (j + 1)) nY, cS ix yo ce sv nw (j + 1)) (⟨by (try dsimp only); omega, by (try dsimp only); rw [chN, hI_15.2.1]; simp [chS, h2, h3, h4, h7, h10]; try omega, by (try dsimp only); rw [spN, hI_15.2.1]; simp [h2, h3, h4, h7, h10, hI_15.2.2.1]; try omega, by (try dsimp only); omega, by (try dsimp only); omega, by (try dsimp only); omega⟩) (by (try dsimp only); omega)
      · refine g_goto E 100 d_Wo_makeChoice_45 (by decide) ?_
        refine g_iinc (lv' := [(5, .int (nI ((j + 1) + 1))), (6, .int (nI (wS wo (j + 1) nw))), (1, .int (nI b)), (2, .int (nI mm)), (3, .int (iI cc)), (4, .int (nI (2 ^ nw - 1))), (0, .ref (ad 12))]) E d_Wo_makeChoice_100 1 rfl (nI_inc _) (by decide) rfl ?_
        refine g_goto E 15 d_Wo_makeChoice_103 (by decide) ?_
        refine g_lv [0, 2, 3, 4, 5, 6] rfl ?_
        exact ih_15 (j + 1, b, mm, cc, f) (⟨by (try dsimp only); omega, by (try dsimp only); rw [chN, hI_15.2.1]; simp [chS, h2, h3]; try omega, by (try dsimp only); rw [spN, hI_15.2.1]; simp [h2, h3, hI_15.2.2.1]; try omega, by (try dsimp only); omega, by (try dsimp only); omega, by (try dsimp only); omega⟩) (by (try dsimp only); omega)
end
section
/-! Shares of parts, as functions on numbers. (The first seven rows are of laws/BITS.to-paste.) -/
theorem wb_tb (n : Nat) : (lN n).toBitVec = BitVec.ofNat 64 n := rfl
theorem wb_inj {a b : Int64} (h : a.toBitVec = b.toBitVec) : a = b := Int64.toBitVec_inj.mp h
theorem wb_c : ∀ k, k < 64 → ((nI k).toInt64 &&& 63) = lN k := by decide +kernel
theorem wb_sm : ∀ k, k < 64 → (BitVec.ofNat 64 k).smod 64 = BitVec.ofNat 64 k := by decide +kernel
theorem wb_shl (n : Nat) {k : Nat} (hk : k < 64) : lN n <<< ((nI k).toInt64 &&& 63) = lN (n * 2 ^ k) := by
  rw [wb_c k hk]
  apply wb_inj
  rw [Int64.toBitVec_shiftLeft, wb_tb, wb_tb, wb_tb, wb_sm k hk]
  apply BitVec.eq_of_toNat_eq
  rw [BitVec.shiftLeft_eq', BitVec.toNat_shiftLeft, BitVec.toNat_ofNat, BitVec.toNat_ofNat, BitVec.toNat_ofNat, Nat.mod_eq_of_lt (show k < 2 ^ 64 by omega), Nat.shiftLeft_eq, Nat.mul_mod, Nat.mod_mod, ← Nat.mul_mod]
theorem pf_lI {a : Nat} (h : a < 2 ^ 63) : (lN a).toInt = (a : Int) := lg_ofNat_toInt h
theorem pf_shr {a d : Nat} {D : Int64} (hD : (D.toBitVec.smod 64).toNat = d) (h : a < 2 ^ 62) : lN a >>> D = lN (a / 2 ^ d) := by
  have hd : a / 2 ^ d ≤ a := Nat.div_le_self _ _
  apply Int64.toInt_inj.mp
  have e : (lN a >>> D).toInt = (lN a).toInt >>> d := by
    rw [← hD]
    exact BitVec.toInt_sshiftRight ..
  rw [e, Int.shiftRight_eq_div_pow, pf_lI (by omega), pf_lI (by omega)]
  rfl
theorem lN_shr {a k : Nat} (h : a < 2 ^ 62) (hk : k < 64) : lN a >>> ((nI k).toInt64 &&& 63) = lN (a / 2 ^ k) := pf_shr (by rw [wb_c k hk, wb_tb, wb_sm k hk, BitVec.toNat_ofNat]; exact Nat.mod_eq_of_lt (by omega)) h
theorem sumN_congr {f g : Nat → Nat} {n : Nat} (h : ∀ i, i < n → f i = g i) : sumN f n = sumN g n := by
  induction n with
  | zero => rfl
  | succ n ih => simp only [sumN]; rw [ih (fun i hi => h i (by omega)), h n (by omega)]
theorem sumN_add {f g : Nat → Nat} {n : Nat} : sumN (fun i => f i + g i) n = sumN f n + sumN g n := by
  induction n with
  | zero => rfl
  | succ n ih => simp only [sumN, ih]; omega
theorem sumN_zero {n : Nat} : sumN (fun _ => 0) n = 0 := by
  induction n with
  | zero => rfl
  | succ n ih => simp only [sumN, ih]
theorem sumN_comm {f : Nat → Nat → Nat} {n k : Nat} : sumN (fun i => sumN (fun j => f i j) k) n = sumN (fun j => sumN (fun i => f i j) n) k := by
  induction n with
  | zero => simp only [sumN]; rw [sumN_zero]
  | succ n ih => simp only [sumN, ih]; rw [← sumN_add]
theorem sumN_mulL {f : Nat → Nat} {c n : Nat} : sumN (fun i => c * f i) n = c * sumN f n := by
  induction n with
  | zero => rfl
  | succ n ih => simp only [sumN, ih, Nat.mul_add]
theorem sumN_mulR {f : Nat → Nat} {c n : Nat} : sumN (fun i => f i * c) n = sumN f n * c := by
  induction n with
  | zero => simp [sumN]
  | succ n ih => simp only [sumN, ih, Nat.add_mul]
theorem sumN_one {r n : Nat} (h : r < n) : sumN (fun j => if j = r then 1 else 0) n = 1 := by
  induction n with
  | zero => omega
  | succ n ih =>
    simp only [sumN]
    by_cases e : r = n
    · subst e
      rw [if_pos rfl, sumN_congr (g := fun _ => 0) (fun i hi => if_neg (by omega)), sumN_zero]
    · rw [ih (by omega), if_neg (Ne.symm e)]
theorem sumN_at {f : Nat → Nat} {n i : Nat} (h : i < n) : f i ≤ sumN f n := by
  induction n with
  | zero => omega
  | succ n ih =>
    simp only [sumN]
    by_cases e : i = n
    · subst e; omega
    · have := ih (by omega); omega
/-- wholly in the start -/
def beg (r : Nat) : Nat → Nat := va_up (fun _ => 0) r 1
/-- what comes to state j -/
def wrJ (sh M : Nat → Nat) (n j : Nat) : Nat := sumN (fun a => sh a * M (a * 4 + j)) n
def wrV (sh M : Nat → Nat) (n : Nat) (sn : Nat → Nat) : Nat → Nat := fun j => if j < n then wrJ sh M n j else sn j
/-- a part begins in this year -/
def enB (rn y : Nat) : Bool := decide (y = 0) || rn.testBit y
/-- shares, years worn, and the other row, behind k years entered -/
def eY (r : Nat) (M : Nat → Nat) (n rn : Nat) (sh sn : Nat → Nat) (yw : Nat) : Nat → (Nat → Nat) × Nat × (Nat → Nat)
  | 0 => (sh, yw, sn)
  | k + 1 => (if enB rn k then beg r else wrV (eY r M n rn sh sn yw k).1 M n (eY r M n rn sh sn yw k).1, if enB rn k then 0 else (eY r M n rn sh sn yw k).2.1 + 1, if enB rn k then (eY r M n rn sh sn yw k).2.2 else wrV (eY r M n rn sh sn yw k).1 M n (eY r M n rn sh sn yw k).2.2)
theorem ifu {F G : Nat → Nat} {t : Nat} : va_up (fun j => if j < t then F j else G j) t (F t) = fun j => if j < t + 1 then F j else G j := by
  funext y
  by_cases e : y = t
  · subst e; rw [va_up_self, if_pos (Nat.lt_succ_self _)]
  · rw [va_up_ne _ _ e]
    by_cases h : y < t
    · rw [if_pos h, if_pos (by omega)]
    · rw [if_neg h, if_neg (by omega)]
theorem ifuZ {F G : Nat → Int} {t : Nat} : va_up (fun j => if j < t then F j else G j) t (F t) = fun j => if j < t + 1 then F j else G j := by
  funext y
  by_cases e : y = t
  · subst e; rw [va_up_self, if_pos (Nat.lt_succ_self _)]
  · rw [va_up_ne _ _ e]
    by_cases h : y < t
    · rw [if_pos h, if_pos (by omega)]
    · rw [if_neg h, if_neg (by omega)]
/-- all shares together are 16 to the power of the years worn -/
theorem eY_sum {r : Nat} {M : Nat → Nat} {n rn : Nat} {sh sn : Nat → Nat} {yw : Nat} (hr : r < n) (hM : ∀ a, a < n → sumN (fun j => M (a * 4 + j)) n = 16) : ∀ k, sumN (eY r M n rn sh sn yw (k + 1)).1 n = 16 ^ (eY r M n rn sh sn yw (k + 1)).2.1 ∧ (eY r M n rn sh sn yw (k + 1)).2.1 ≤ k := by
  intro k
  induction k with
  | zero =>
    simp only [eY, enB, decide_true, Bool.true_or, if_true]
    exact ⟨(show sumN (beg r) n = 16 ^ 0 from sumN_one hr), Nat.le_refl _⟩
  | succ k ih =>
    rw [eY]
    by_cases h : enB rn (k + 1) = true
    · simp only [h, if_true]
      exact ⟨(show sumN (beg r) n = 16 ^ 0 from sumN_one hr), Nat.zero_le _⟩
    · simp only [h, Bool.false_eq_true, if_false]
      refine ⟨?_, by omega⟩
      rw [sumN_congr (g := fun j => sumN (fun a => (eY r M n rn sh sn yw (k + 1)).1 a * M (a * 4 + j)) n) (fun j hj => by simp [wrV, hj, wrJ]), sumN_comm, sumN_congr (g := fun a => (eY r M n rn sh sn yw (k + 1)).1 a * 16) (fun a ha => by rw [sumN_mulL, hM a ha]), sumN_mulR, ih.1, Nat.pow_succ]
theorem pow16 {k : Nat} (h : k ≤ 11) : 16 ^ k ≤ 17592186044416 := by
  have := Nat.pow_le_pow_right (n := 16) (by decide) h
  exact Nat.le_trans this (by decide)
section GCP
variable {p : Program} {l : Launch} {e : Env} {R : Room} {s : State} {m : MethodId} {args : Array Value} {below : List Frame} {meth : Method} {c : Code} {V : gV} {A : Nat → Prop} {H0 : Heap} {nL : Nat} {Q : State → Prop} {cells slots : Nat} {ws : va_W} {lv : List (Nat × Value)} {pc : Nat} {rest : List Value} {cc : ByteArray} {own : String}
theorem g_copyL (E : gE p s m args c cc nL own V) {index : Nat} (hlink : Cond.methodLink own index arraycopyName ∈ gt) (q0 q1 : Nat) {a0 a n0 n1 n : Nat} {f g : Nat → Nat} (ha0 : ws[q0]? = some (a0, aL V n0 f)) (ha1 : ws[q1]? = some (a, aL V n1 g)) (h4 : n ≤ n0) (h5 : n ≤ n1) (hn : n < 2 ^ 31) (hfr : 1 ≤ R.frames) (hlo : (rest.map fun v => v.category).sum + (nativeFrameWords "java/lang/System" "arraycopy" 5 + 11) ≤ R.locals) {ws' : va_W} (hw : ws.set q1 (a, aL V n1 (fun j => if j < n then f j else g j)) = ws') (hd : decode cc pc = .ok (.invokestatic index, 3)) (k : gg p l e R s m args below meth c nL Q cells slots (gW V A H0 ws') lv (pc + 3) rest) : gg p l e R s m args below meth c nL Q cells slots (gW V A H0 ws) lv pc (.int (nI n) :: .int (nI 0) :: .ref a :: .int (nI 0) :: .ref a0 :: rest) := by
  intro H locs ls ho hl
  have e0 : (nI 0).toNatClampNeg = 0 := by decide
  have en : (nI n).toNatClampNeg = n := nI_clamp hn
  refine va_copyl E.1 E.2.1 (E.2.2.1.trans hl.1.symm) E.2.2.2.1 (E.2.2.2.2.1 _ hlink) (E.2.2.2.2.1 _ k_cpn) (E.2.2.2.2.1 _ k_cps) (E.2.2.2.2.1 _ k_sys) E.2.2.2.2.2.1 ho.1 ho.2.1 ho.2.2 q0 q1 1 1 ha0 ha1 rfl rfl rfl (by decide) (by decide) (nI_pos hn) (by rw [e0, en]; omega) (by rw [e0, en]; omega) (fun _ _ => rfl) hfr hlo hd (fun H1 locs1 hP1 hD1 hS1 => ?_)
  have ef : va_cpy (fun j => lN (f j)) (fun j => lN (g j)) (nI 0).toNatClampNeg (nI 0).toNatClampNeg (nI n).toNatClampNeg = fun j => lN (if j < n then f j else g j) := by
    funext j
    rw [e0, en]
    unfold va_cpy
    by_cases h : j < n
    · rw [if_pos (by omega), if_pos h]; simp
    · rw [if_neg (by omega), if_neg h]
  rw [ef] at hP1 hD1
  exact k H1 locs1 ls ⟨hw ▸ hP1, hw ▸ hD1, hS1⟩ hl
end GCP
end
section
theorem va_id {α : Type} (f : Nat → α) (k : Nat) : va_up f k (f k) = f := by
  funext j; by_cases h : j = k
  · subst h; rw [va_up_self]
  · rw [va_up_ne _ _ h]

set_option maxHeartbeats 4000000 in
set_option maxRecDepth 100000 in
theorem C_Pa_begin (l : Launch) {V : gV} {ad r1 r2 r3 : Nat → Nat} {nY : Nat} {ix bu : Nat → Nat} {np : Nat} {st sr : Nat → Nat} {sx tk : Nat → Nat → Nat} {rn sh sn : Nat → Nat} {yw nw : Nat} {yo ce wo : Nat → Nat} {po ne : Nat → Option Nat} {cs : Nat → Nat} {sv : Nat → Nat → Nat} {mk : Nat} {sp rs : Nat → Int} {bg dp : Nat} (i : Nat) (hi : i < 12) (hr : sr i < 4) : mWv l y_Pa_begin (w_Pa_begin :: gt) rm_Pa_begin V (wC V ad r1 r2 r3 nY ix bu np st sr sx tk rn sh sn yw nw yo ce wo po ne cs sv mk sp rs bg dp) [.ref (ad 4), .int (nI i)] (wC V ad r1 r2 r3 nY ix bu np st sr sx tk rn (beg (sr i)) sn 0 nw yo ce wo po ne cs sv mk sp rs bg dp) 0 0 := by
  intro sz
  refine gMet (V := V) (As := [.ref (ad 4), .int (nI i)]) (cc := c_Pa_begin) (maxL := 2) (ret := none) (by decide) rfl (Nat.le_of_ble_eq_true rfl) (fun a U h => ⟨h.1, h.2.2.2.1⟩) ?_
  intro p e s m below meth c E hr hlk hnm hv
  refine g_toW (sz := sz) (w := wC V ad r1 r2 r3 nY ix bu np st sr sx tk rn sh sn yw nw yo ce wo po ne cs sv mk sp rs bg dp) hv.2.2.1 hv.2.2.2.2 ?_
  have hA0 : ∀ q : Nat, s.heap.size ≤ q → va_A (wC V ad r1 r2 r3 nY ix bu np st sr sx tk rn sh sn yw nw yo ce wo po ne cs sv mk sp rs bg dp) sz q := fun q h => Or.inr (by rw [← hv.2.1]; exact h)
  refine g_aload_n E d_Pa_begin_0 rfl 0 rfl ?_
  refine gf_Pa_27 E gO_w 4 rfl rfl d_Pa_begin_1 ?_
  refine g_lconst (v := lN 0) E d_Pa_begin_4 (by decide) ?_
  refine gwSv (As := [.ref (ad 10), .long (lN 0)]) (rest := []) (w' := wC V ad r1 r2 r3 nY ix bu np st sr sx tk rn (fun _ => 0) sn yw nw yo ce wo po ne cs sv mk sp rs bg dp) (mc := 0) (ms := 0) E hA0 (C_fill_sh l) (cs_Pa_63 E rfl rfl ⟨Nat.le_of_ble_eq_true rfl, Nat.le_of_ble_eq_true rfl⟩) rfl rfl (Nat.le_of_ble_eq_true rfl) ⟨Nat.zero_le _, Nat.zero_le _⟩ d_Pa_begin_5 ?_
  refine g_aload_n E d_Pa_begin_8 rfl 0 rfl ?_
  refine gf_Pa_27 E gO_w 4 rfl rfl d_Pa_begin_9 ?_
  refine g_aload_n E d_Pa_begin_12 rfl 0 rfl ?_
  refine gf_Pa_13 E gO_w 4 rfl rfl d_Pa_begin_13 ?_
  refine g_iload_n E d_Pa_begin_16 rfl 1 rfl ?_
  refine g_ldN E gO_w 6 rfl (by omega) (by decide) d_Pa_begin_17 ?_
  refine g_lconst (v := lN 1) E d_Pa_begin_18 (by decide) ?_
  refine g_stL (ws' := wC V ad r1 r2 r3 nY ix bu np st sr sx tk rn (va_up (fun _ => 0) (sr i) 1) sn yw nw yo ce wo po ne cs sv mk sp rs bg dp) E 10 rfl (by omega) (by decide) rfl d_Pa_begin_19 ?_
  refine g_aload_n E d_Pa_begin_20 rfl 0 rfl ?_
  refine g_iconst (v := nI 0) E d_Pa_begin_21 (by decide) ?_
  refine pf_Pa_69 (ws' := wC V ad r1 r2 r3 nY ix bu np st sr sx tk rn (va_up (fun _ => 0) (sr i) 1) sn 0 nw yo ce wo po ne cs sv mk sp rs bg dp) E 4 rfl rfl rfl (Nat.le_of_ble_eq_true rfl) rfl d_Pa_begin_22 ?_
  refine g_ws (ws' := wC V ad r1 r2 r3 nY ix bu np st sr sx tk rn (beg (sr i)) sn 0 nw yo ce wo po ne cs sv mk sp rs bg dp) (rfl) ?_
  exact g_vret E hr hlk d_Pa_begin_25 (gq_wv (w1 := fun _ => wC V ad r1 r2 r3 nY ix bu np st sr sx tk rn (beg (sr i)) sn 0 nw yo ce wo po ne cs sv mk sp rs bg dp) () trivial)

set_option maxHeartbeats 4000000 in
set_option maxRecDepth 100000 in
theorem C_Pa_wear (l : Launch) {V : gV} {ad r1 r2 r3 : Nat → Nat} {nY : Nat} {ix bu : Nat → Nat} {np : Nat} {st sr : Nat → Nat} {sx tk : Nat → Nat → Nat} {rn sh sn : Nat → Nat} {yw nw : Nat} {yo ce wo : Nat → Nat} {po ne : Nat → Option Nat} {cs : Nat → Nat} {sv : Nat → Nat → Nat} {mk : Nat} {sp rs : Nat → Int} {bg dp : Nat} (i : Nat) (hi : i < 12) (hs : st i ≤ 4) (hx : ∀ i j, sx i j ≤ 16) : mWv l y_Pa_wear (w_Pa_wear :: gt) rm_Pa_wear V (wC V ad r1 r2 r3 nY ix bu np st sr sx tk rn sh sn yw nw yo ce wo po ne cs sv mk sp rs bg dp) [.ref (ad 4), .int (nI i)] (wC V ad r1 r2 r3 nY ix bu np st sr sx tk rn (wrV sh (sx i) (st i) sh) (wrV sh (sx i) (st i) sn) (yw + 1) nw yo ce wo po ne cs sv mk sp rs bg dp) 0 0 := by
  intro sz
  refine gMet (V := V) (As := [.ref (ad 4), .int (nI i)]) (cc := c_Pa_wear) (maxL := 6) (ret := none) (by decide) rfl (Nat.le_of_ble_eq_true rfl) (fun a U h => ⟨h.1, h.2.2.2.1⟩) ?_
  intro p e s m below meth c E hr hlk hnm hv
  refine g_toW (sz := sz) (w := wC V ad r1 r2 r3 nY ix bu np st sr sx tk rn sh sn yw nw yo ce wo po ne cs sv mk sp rs bg dp) hv.2.2.1 hv.2.2.2.2 ?_
  have hA0 : ∀ q : Nat, s.heap.size ≤ q → va_A (wC V ad r1 r2 r3 nY ix bu np st sr sx tk rn sh sn yw nw yo ce wo po ne cs sv mk sp rs bg dp) sz q := fun q h => Or.inr (by rw [← hv.2.1]; exact h)
  have hM : ∀ a t, sx i (a * 4 + t) < 2 ^ 31 := fun a t => Nat.lt_of_le_of_lt (hx i _) (by decide)
  refine g_iconst (v := nI 0) E d_Pa_wear_0 (by decide) ?_
  refine g_istore_n (lv' := [(2, .int (nI 0)), (0, .ref (ad 4)), (1, .int (nI i))]) E d_Pa_wear_1 rfl (by decide) rfl ?_
  refine g_lv [0, 1, 2] rfl ?_
  refine gloop (α := Nat × (Nat → Nat)) (fun a_ => gW V _ _ (wC V ad r1 r2 r3 nY ix bu np st sr sx tk rn sh a_.2 yw nw yo ce wo po ne cs sv mk sp rs bg dp)) (fun a_ => [(2, .int (nI a_.1)), (0, .ref (ad 4)), (1, .int (nI i))]) (fun a_ => a_.1 ≤ st i ∧ a_.2 = fun j => if j < a_.1 then wrJ sh (sx i) (st i) j else sn j) (fun a_ => st i - a_.1) (0, sn) (⟨Nat.zero_le _, by funext j; simp⟩) ?_
  rintro ⟨t, g⟩ hI_2 ih_2
  try dsimp only at hI_2 ih_2 ⊢
  refine g_iload_n E d_Pa_wear_2 rfl 0 rfl ?_
  refine g_aload_n E d_Pa_wear_3 rfl 1 rfl ?_
  refine gf_Pa_9 E gO_w 4 rfl rfl d_Pa_wear_4 ?_
  refine g_iload_n E d_Pa_wear_7 rfl 2 rfl ?_
  refine g_ldN E gO_w 5 rfl (by omega) (by decide) d_Pa_wear_8 ?_
  refine g_ncmp_ge E 67 d_Pa_wear_9 (by decide) (by omega) (by omega) (fun h1 => ?_) (fun h1 => ?_)
  · refine g_aload_n E d_Pa_wear_67 rfl 1 rfl ?_
    refine gf_Pa_31 E gO_w 4 rfl rfl d_Pa_wear_68 ?_
    refine g_iconst (v := nI 0) E d_Pa_wear_71 (by decide) ?_
    refine g_aload_n E d_Pa_wear_72 rfl 1 rfl ?_
    refine gf_Pa_27 E gO_w 4 rfl rfl d_Pa_wear_73 ?_
    refine g_iconst (v := nI 0) E d_Pa_wear_76 (by decide) ?_
    refine g_aload_n E d_Pa_wear_77 rfl 1 rfl ?_
    refine gf_Pa_9 E gO_w 4 rfl rfl d_Pa_wear_78 ?_
    refine g_iload_n E d_Pa_wear_81 rfl 2 rfl ?_
    refine g_ldN E gO_w 5 rfl (by omega) (by decide) d_Pa_wear_82 ?_
    refine g_copyL (ws' := wC V ad r1 r2 r3 nY ix bu np st sr sx tk rn (fun j => if j < (st i) then g j else sh j) g yw nw yo ce wo po ne cs sv mk sp rs bg dp) E kl_Pa_76 11 10 rfl rfl (by omega) (by omega) (by omega) (Nat.le_of_ble_eq_true rfl) (Nat.le_of_ble_eq_true rfl) rfl d_Pa_wear_83 ?_
    refine g_aload_n E d_Pa_wear_86 rfl 1 rfl ?_
    refine g_dup E d_Pa_wear_87 rfl ?_
    refine gf_Pa_69 E gO_w 4 rfl rfl d_Pa_wear_88 ?_
    refine g_iconst (v := nI 1) E d_Pa_wear_91 (by decide) ?_
    refine g_iadd E d_Pa_wear_92 ?_
    refine g_topi (nI_add _ _) ?_
    refine pf_Pa_69 (ws' := wC V ad r1 r2 r3 nY ix bu np st sr sx tk rn (fun j => if j < (st i) then g j else sh j) g (yw + 1) nw yo ce wo po ne cs sv mk sp rs bg dp) E 4 rfl rfl rfl (Nat.le_of_ble_eq_true rfl) rfl d_Pa_wear_93 ?_
    refine g_ws (ws' := wC V ad r1 r2 r3 nY ix bu np st sr sx tk rn (wrV sh (sx i) (st i) sh) (wrV sh (sx i) (st i) sn) (yw + 1) nw yo ce wo po ne cs sv mk sp rs bg dp) (by rw [hI_2.2, show t = st i by omega]; congr 1; funext j; by_cases hj : j < st i <;> simp [wrV, hj]) ?_
    exact g_vret E hr hlk d_Pa_wear_96 (gq_wv (w1 := fun _ => wC V ad r1 r2 r3 nY ix bu np st sr sx tk rn (wrV sh (sx i) (st i) sh) (wrV sh (sx i) (st i) sn) (yw + 1) nw yo ce wo po ne cs sv mk sp rs bg dp) () trivial)
  · refine g_lconst (v := lN 0) E d_Pa_wear_12 (by decide) ?_
    refine g_lstore_n (lv' := [(3, .long (lN 0)), (2, .int (nI t)), (0, .ref (ad 4)), (1, .int (nI i))]) E d_Pa_wear_13 rfl (by decide) rfl ?_
    refine g_iconst (v := nI 0) E d_Pa_wear_14 (by decide) ?_
    refine g_istore (lv' := [(5, .int (nI 0)), (3, .long (lN 0)), (2, .int (nI t)), (0, .ref (ad 4)), (1, .int (nI i))]) E d_Pa_wear_15 (by decide) rfl ?_
    refine g_lv [0, 1, 2, 3, 4] rfl ?_
    refine gloop (α := Nat × Nat) (fun a_ => gW V _ _ (wC V ad r1 r2 r3 nY ix bu np st sr sx tk rn sh g yw nw yo ce wo po ne cs sv mk sp rs bg dp)) (fun a_ => [(5, .int (nI a_.1)), (3, .long (lN a_.2)), (2, .int (nI t)), (0, .ref (ad 4)), (1, .int (nI i))]) (fun a_ => a_.1 ≤ st i ∧ a_.2 = sumN (fun a => sh a * sx i (a * 4 + t)) a_.1) (fun a_ => st i - a_.1) (0, 0) (⟨Nat.zero_le _, rfl⟩) ?_
    rintro ⟨q, acc⟩ hI_17 ih_17
    try dsimp only at hI_17 ih_17 ⊢
    refine g_iload E d_Pa_wear_17 0 rfl ?_
    refine g_aload_n E d_Pa_wear_19 rfl 3 rfl ?_
    refine gf_Pa_9 E gO_w 4 rfl rfl d_Pa_wear_20 ?_
    refine g_iload_n E d_Pa_wear_23 rfl 4 rfl ?_
    refine g_ldN E gO_w 5 rfl (by omega) (by decide) d_Pa_wear_24 ?_
    refine g_ncmp_ge E 54 d_Pa_wear_25 (by decide) (by omega) (by omega) (fun h2 => ?_) (fun h2 => ?_)
    · refine g_aload_n E d_Pa_wear_54 rfl 3 rfl ?_
      refine gf_Pa_31 E gO_w 4 rfl rfl d_Pa_wear_55 ?_
      refine g_iload_n E d_Pa_wear_58 rfl 2 rfl ?_
      refine g_lload_n E d_Pa_wear_59 rfl 1 rfl ?_
      refine g_stL (ws' := wC V ad r1 r2 r3 nY ix bu np st sr sx tk rn sh (va_up g t acc) yw nw yo ce wo po ne cs sv mk sp rs bg dp) E 11 rfl (by omega) (by decide) rfl d_Pa_wear_60 ?_
      refine g_iinc (lv' := [(2, .int (nI (t + 1))), (5, .int (nI q)), (3, .long (lN acc)), (0, .ref (ad 4)), (1, .int (nI i))]) E d_Pa_wear_61 2 rfl (nI_inc _) (by decide) rfl ?_
      refine g_goto E 2 d_Pa_wear_64 (by decide) ?_
      refine g_lv [0, 3, 4] rfl ?_
      exact ih_2 (t + 1, va_up g t acc) (⟨by (try dsimp only); omega, by (try dsimp only); rw [hI_17.2, show q = st i by omega, hI_2.2]; exact ifu (F := wrJ sh (sx i) (st i))⟩) (by (try dsimp only); omega)
    · refine g_lload_n E d_Pa_wear_28 rfl 1 rfl ?_
      refine g_aload_n E d_Pa_wear_29 rfl 3 rfl ?_
      refine gf_Pa_27 E gO_w 4 rfl rfl d_Pa_wear_30 ?_
      refine g_iload E d_Pa_wear_33 0 rfl ?_
      refine g_ldL E gO_w 10 rfl (by omega) (by decide) d_Pa_wear_35 ?_
      refine g_aload_n E d_Pa_wear_36 rfl 3 rfl ?_
      refine g_iload_n E d_Pa_wear_37 rfl 4 rfl ?_
      refine g_iload E d_Pa_wear_38 0 rfl ?_
      refine g_iload_n E d_Pa_wear_40 rfl 2 rfl ?_
      refine gpVi (As := [.int (nI i), .int (nI q), .int (nI t)]) (rest := [.long (lN (sh q)), .long (lN acc)]) E gO_w 4 rfl rfl (C_Pa_going l i q t (by omega) (by omega) (by omega)) (cs_Pa_72 E rfl rfl ⟨Nat.le_of_ble_eq_true rfl, Nat.le_of_ble_eq_true rfl⟩) rfl rfl (Nat.le_of_ble_eq_true rfl) ⟨Nat.zero_le _, Nat.zero_le _⟩ d_Pa_wear_41 ?_
      refine g_i2l E d_Pa_wear_44 ?_
      refine g_topl (nI_l (hM _ _)) ?_
      refine g_lmul E d_Pa_wear_45 ?_
      refine g_topl (lN_mul _ _) ?_
      refine g_ladd E d_Pa_wear_46 ?_
      refine g_topl (lN_add _ _) ?_
      refine g_lstore_n (lv' := [(3, .long (lN (acc + ((sh q) * (sx i (q * 4 + t)))))), (5, .int (nI q)), (2, .int (nI t)), (0, .ref (ad 4)), (1, .int (nI i))]) E d_Pa_wear_47 rfl (by decide) rfl ?_
      refine g_iinc (lv' := [(5, .int (nI (q + 1))), (3, .long (lN (acc + ((sh q) * (sx i (q * 4 + t)))))), (2, .int (nI t)), (0, .ref (ad 4)), (1, .int (nI i))]) E d_Pa_wear_48 1 rfl (nI_inc _) (by decide) rfl ?_
      refine g_goto E 17 d_Pa_wear_51 (by decide) ?_
      refine g_lv [0, 1, 2, 3, 4] rfl ?_
      exact ih_17 (q + 1, acc + ((sh q) * (sx i (q * 4 + t)))) (⟨by (try dsimp only); omega, by (try dsimp only); rw [hI_17.2]; rfl⟩) (by (try dsimp only); omega)

set_option maxHeartbeats 4000000 in
set_option maxRecDepth 100000 in
theorem C_Pa_enter (l : Launch) {V : gV} {ad r1 r2 r3 : Nat → Nat} {nY : Nat} {ix bu : Nat → Nat} {np : Nat} {st sr : Nat → Nat} {sx tk : Nat → Nat → Nat} {rn sh sn : Nat → Nat} {yw nw : Nat} {yo ce wo : Nat → Nat} {po ne : Nat → Option Nat} {cs : Nat → Nat} {sv : Nat → Nat → Nat} {mk : Nat} {sp rs : Nat → Int} {bg dp : Nat} (i y : Nat) (hi : i < 12) (hy : y < 12) (hs : st i ≤ 4) (hr : sr i < 4) (hn : rn i < 4096) (hx : ∀ i j, sx i j ≤ 16) : mWv l y_Pa_enter (w_Pa_enter :: gt) rm_Pa_enter V (wC V ad r1 r2 r3 nY ix bu np st sr sx tk rn sh sn yw nw yo ce wo po ne cs sv mk sp rs bg dp) [.ref (ad 4), .int (nI i), .int (nI y)] (wC V ad r1 r2 r3 nY ix bu np st sr sx tk rn (if enB (rn i) y then beg (sr i) else wrV sh (sx i) (st i) sh) (if enB (rn i) y then sn else wrV sh (sx i) (st i) sn) (if enB (rn i) y then 0 else yw + 1) nw yo ce wo po ne cs sv mk sp rs bg dp) 0 0 := by
  intro sz
  refine gMet (V := V) (As := [.ref (ad 4), .int (nI i), .int (nI y)]) (cc := c_Pa_enter) (maxL := 3) (ret := none) (by decide) rfl (Nat.le_of_ble_eq_true rfl) (fun a U h => ⟨h.1, h.2.2.2.1⟩) ?_
  intro p e s m below meth c E hr hlk hnm hv
  refine g_toW (sz := sz) (w := wC V ad r1 r2 r3 nY ix bu np st sr sx tk rn sh sn yw nw yo ce wo po ne cs sv mk sp rs bg dp) hv.2.2.1 hv.2.2.2.2 ?_
  have hA0 : ∀ q : Nat, s.heap.size ≤ q → va_A (wC V ad r1 r2 r3 nY ix bu np st sr sx tk rn sh sn yw nw yo ce wo po ne cs sv mk sp rs bg dp) sz q := fun q h => Or.inr (by rw [← hv.2.1]; exact h)
  refine g_iload_n E d_Pa_enter_0 rfl 2 rfl ?_
  refine g_nif_eq E 17 d_Pa_enter_1 (by decide) (by omega) (fun h1 => ?_) (fun h1 => ?_)
  · refine g_aload_n E d_Pa_enter_17 rfl 0 rfl ?_
    refine g_iload_n E d_Pa_enter_18 rfl 1 rfl ?_
    refine gwVv (As := [.int (nI i)]) (rest := []) (w' := wC V ad r1 r2 r3 nY ix bu np st sr sx tk rn (beg (sr i)) sn 0 nw yo ce wo po ne cs sv mk sp rs bg dp) (mc := 0) (ms := 0) E hA0 4 rfl rfl (C_Pa_begin l i (by omega) (by omega)) (cs_Pa_56 E rfl rfl ⟨Nat.le_of_ble_eq_true rfl, Nat.le_of_ble_eq_true rfl⟩) rfl rfl (Nat.le_of_ble_eq_true rfl) ⟨Nat.zero_le _, Nat.zero_le _⟩ d_Pa_enter_19 ?_
    refine g_goto E 30 d_Pa_enter_22 (by decide) ?_
    refine g_ws (ws' := wC V ad r1 r2 r3 nY ix bu np st sr sx tk rn (if enB (rn i) y then beg (sr i) else wrV sh (sx i) (st i) sh) (if enB (rn i) y then sn else wrV sh (sx i) (st i) sn) (if enB (rn i) y then 0 else yw + 1) nw yo ce wo po ne cs sv mk sp rs bg dp) (by simp [enB, h1]) ?_
    exact g_vret E hr hlk d_Pa_enter_30 (gq_wv (w1 := fun _ => wC V ad r1 r2 r3 nY ix bu np st sr sx tk rn (if enB (rn i) y then beg (sr i) else wrV sh (sx i) (st i) sh) (if enB (rn i) y then sn else wrV sh (sx i) (st i) sn) (if enB (rn i) y then 0 else yw + 1) nw yo ce wo po ne cs sv mk sp rs bg dp) () trivial)
  · refine g_aload_n E d_Pa_enter_4 rfl 0 rfl ?_
    refine gf_Pa_24 E gO_w 4 rfl rfl d_Pa_enter_5 ?_
    refine g_iload_n E d_Pa_enter_8 rfl 1 rfl ?_
    refine g_ldN E gO_w 9 rfl (by omega) (by decide) d_Pa_enter_9 ?_
    refine g_iload_n E d_Pa_enter_10 rfl 2 rfl ?_
    refine gpNi (As := [.int (nI (rn i)), .int (nI y)]) (rest := []) E gO_w (C_CY_holds l (rn i) y (by omega) (by omega)) (cs_Pa_50 E rfl rfl ⟨Nat.le_of_ble_eq_true rfl, Nat.le_of_ble_eq_true rfl⟩) rfl rfl (Nat.le_of_ble_eq_true rfl) ⟨Nat.zero_le _, Nat.zero_le _⟩ d_Pa_enter_11 ?_
    refine g_bif_eq E 25 d_Pa_enter_14 (by decide) (fun h2 => ?_) (fun h2 => ?_)
    · refine g_aload_n E d_Pa_enter_25 rfl 0 rfl ?_
      refine g_iload_n E d_Pa_enter_26 rfl 1 rfl ?_
      refine gwVv (As := [.int (nI i)]) (rest := []) (w' := wC V ad r1 r2 r3 nY ix bu np st sr sx tk rn (wrV sh (sx i) (st i) sh) (wrV sh (sx i) (st i) sn) (yw + 1) nw yo ce wo po ne cs sv mk sp rs bg dp) (mc := 0) (ms := 0) E hA0 4 rfl rfl (C_Pa_wear l i (by omega) (by omega) hx) (cs_Pa_60 E rfl rfl ⟨Nat.le_of_ble_eq_true rfl, Nat.le_of_ble_eq_true rfl⟩) rfl rfl (Nat.le_of_ble_eq_true rfl) ⟨Nat.zero_le _, Nat.zero_le _⟩ d_Pa_enter_27 ?_
      refine g_ws (ws' := wC V ad r1 r2 r3 nY ix bu np st sr sx tk rn (if enB (rn i) y then beg (sr i) else wrV sh (sx i) (st i) sh) (if enB (rn i) y then sn else wrV sh (sx i) (st i) sn) (if enB (rn i) y then 0 else yw + 1) nw yo ce wo po ne cs sv mk sp rs bg dp) (by simp [enB, h1, h2]) ?_
      exact g_vret E hr hlk d_Pa_enter_30 (gq_wv (w1 := fun _ => wC V ad r1 r2 r3 nY ix bu np st sr sx tk rn (if enB (rn i) y then beg (sr i) else wrV sh (sx i) (st i) sh) (if enB (rn i) y then sn else wrV sh (sx i) (st i) sn) (if enB (rn i) y then 0 else yw + 1) nw yo ce wo po ne cs sv mk sp rs bg dp) () trivial)
    · refine g_aload_n E d_Pa_enter_17 rfl 0 rfl ?_
      refine g_iload_n E d_Pa_enter_18 rfl 1 rfl ?_
      refine gwVv (As := [.int (nI i)]) (rest := []) (w' := wC V ad r1 r2 r3 nY ix bu np st sr sx tk rn (beg (sr i)) sn 0 nw yo ce wo po ne cs sv mk sp rs bg dp) (mc := 0) (ms := 0) E hA0 4 rfl rfl (C_Pa_begin l i (by omega) (by omega)) (cs_Pa_56 E rfl rfl ⟨Nat.le_of_ble_eq_true rfl, Nat.le_of_ble_eq_true rfl⟩) rfl rfl (Nat.le_of_ble_eq_true rfl) ⟨Nat.zero_le _, Nat.zero_le _⟩ d_Pa_enter_19 ?_
      refine g_goto E 30 d_Pa_enter_22 (by decide) ?_
      refine g_ws (ws' := wC V ad r1 r2 r3 nY ix bu np st sr sx tk rn (if enB (rn i) y then beg (sr i) else wrV sh (sx i) (st i) sh) (if enB (rn i) y then sn else wrV sh (sx i) (st i) sn) (if enB (rn i) y then 0 else yw + 1) nw yo ce wo po ne cs sv mk sp rs bg dp) (by simp [enB, h1, h2]) ?_
      exact g_vret E hr hlk d_Pa_enter_30 (gq_wv (w1 := fun _ => wC V ad r1 r2 r3 nY ix bu np st sr sx tk rn (if enB (rn i) y then beg (sr i) else wrV sh (sx i) (st i) sh) (if enB (rn i) y then sn else wrV sh (sx i) (st i) sn) (if enB (rn i) y then 0 else yw + 1) nw yo ce wo po ne cs sv mk sp rs bg dp) () trivial)

set_option maxHeartbeats 4000000 in
set_option maxRecDepth 100000 in
theorem C_Pa_goTo (l : Launch) {V : gV} {ad r1 r2 r3 : Nat → Nat} {nY : Nat} {ix bu : Nat → Nat} {np : Nat} {st sr : Nat → Nat} {sx tk : Nat → Nat → Nat} {rn sh sn : Nat → Nat} {yw nw : Nat} {yo ce wo : Nat → Nat} {po ne : Nat → Option Nat} {cs : Nat → Nat} {sv : Nat → Nat → Nat} {mk : Nat} {sp rs : Nat → Int} {bg dp : Nat} (i y : Nat) (hi : i < 12) (hy : y < 12) (hs : st i ≤ 4) (hr : sr i < 4) (hn : rn i < 4096) (hx : ∀ i j, sx i j ≤ 16) : mWv l y_Pa_goTo (w_Pa_goTo :: gt) rm_Pa_goTo V (wC V ad r1 r2 r3 nY ix bu np st sr sx tk rn sh sn yw nw yo ce wo po ne cs sv mk sp rs bg dp) [.ref (ad 4), .int (nI i), .int (nI y)] (wC V ad r1 r2 r3 nY ix bu np st sr sx tk rn ((eY (sr i) (sx i) (st i) (rn i) sh sn yw (y + 1)).1) ((eY (sr i) (sx i) (st i) (rn i) sh sn yw (y + 1)).2.2) ((eY (sr i) (sx i) (st i) (rn i) sh sn yw (y + 1)).2.1) nw yo ce wo po ne cs sv mk sp rs bg dp) 0 0 := by
  intro sz
  refine gMet (V := V) (As := [.ref (ad 4), .int (nI i), .int (nI y)]) (cc := c_Pa_goTo) (maxL := 4) (ret := none) (by decide) rfl (Nat.le_of_ble_eq_true rfl) (fun a U h => ⟨h.1, h.2.2.2.1⟩) ?_
  intro p e s m below meth c E hr hlk hnm hv
  refine g_toW (sz := sz) (w := wC V ad r1 r2 r3 nY ix bu np st sr sx tk rn sh sn yw nw yo ce wo po ne cs sv mk sp rs bg dp) hv.2.2.1 hv.2.2.2.2 ?_
  have hA0 : ∀ q : Nat, s.heap.size ≤ q → va_A (wC V ad r1 r2 r3 nY ix bu np st sr sx tk rn sh sn yw nw yo ce wo po ne cs sv mk sp rs bg dp) sz q := fun q h => Or.inr (by rw [← hv.2.1]; exact h)
  refine g_iconst (v := nI 0) E d_Pa_goTo_0 (by decide) ?_
  refine g_istore_n (lv' := [(3, .int (nI 0)), (0, .ref (ad 4)), (1, .int (nI i)), (2, .int (nI y))]) E d_Pa_goTo_1 rfl (by decide) rfl ?_
  refine g_lv [0, 1, 2, 3] rfl ?_
  refine gloop (α := Nat) (fun a_ => gW V _ _ (wC V ad r1 r2 r3 nY ix bu np st sr sx tk rn ((eY (sr i) (sx i) (st i) (rn i) sh sn yw a_).1) ((eY (sr i) (sx i) (st i) (rn i) sh sn yw a_).2.2) ((eY (sr i) (sx i) (st i) (rn i) sh sn yw a_).2.1) nw yo ce wo po ne cs sv mk sp rs bg dp)) (fun a_ => [(3, .int (nI a_)), (0, .ref (ad 4)), (1, .int (nI i)), (2, .int (nI y))]) (fun a_ => a_ ≤ y + 1) (fun a_ => y + 1 - a_) (0) (Nat.zero_le _) ?_
  rintro k hI_2 ih_2
  try dsimp only at hI_2 ih_2 ⊢
  refine g_iload_n E d_Pa_goTo_2 rfl 0 rfl ?_
  refine g_iload_n E d_Pa_goTo_3 rfl 3 rfl ?_
  refine g_ncmp_gt E 19 d_Pa_goTo_4 (by decide) (by omega) (by omega) (fun h1 => ?_) (fun h1 => ?_)
  · refine g_ws (ws' := wC V ad r1 r2 r3 nY ix bu np st sr sx tk rn ((eY (sr i) (sx i) (st i) (rn i) sh sn yw (y + 1)).1) ((eY (sr i) (sx i) (st i) (rn i) sh sn yw (y + 1)).2.2) ((eY (sr i) (sx i) (st i) (rn i) sh sn yw (y + 1)).2.1) nw yo ce wo po ne cs sv mk sp rs bg dp) (by rw [show k = y + 1 by omega]) ?_
    exact g_vret E hr hlk d_Pa_goTo_19 (gq_wv (w1 := fun _ => wC V ad r1 r2 r3 nY ix bu np st sr sx tk rn ((eY (sr i) (sx i) (st i) (rn i) sh sn yw (y + 1)).1) ((eY (sr i) (sx i) (st i) (rn i) sh sn yw (y + 1)).2.2) ((eY (sr i) (sx i) (st i) (rn i) sh sn yw (y + 1)).2.1) nw yo ce wo po ne cs sv mk sp rs bg dp) () trivial)
  · refine g_aload_n E d_Pa_goTo_7 rfl 1 rfl ?_
    refine g_iload_n E d_Pa_goTo_8 rfl 2 rfl ?_
    refine g_iload_n E d_Pa_goTo_9 rfl 0 rfl ?_
    refine gwVv (As := [.int (nI i), .int (nI k)]) (rest := []) (w' := wC V ad r1 r2 r3 nY ix bu np st sr sx tk rn (if enB (rn i) k then beg (sr i) else wrV ((eY (sr i) (sx i) (st i) (rn i) sh sn yw k).1) (sx i) (st i) ((eY (sr i) (sx i) (st i) (rn i) sh sn yw k).1)) (if enB (rn i) k then (eY (sr i) (sx i) (st i) (rn i) sh sn yw k).2.2 else wrV ((eY (sr i) (sx i) (st i) (rn i) sh sn yw k).1) (sx i) (st i) ((eY (sr i) (sx i) (st i) (rn i) sh sn yw k).2.2)) (if enB (rn i) k then 0 else ((eY (sr i) (sx i) (st i) (rn i) sh sn yw k).2.1) + 1) nw yo ce wo po ne cs sv mk sp rs bg dp) (mc := 0) (ms := 0) E hA0 4 rfl rfl (C_Pa_enter l i k (by omega) (by omega) (by omega) (by omega) (by omega) hx) (cs_Pa_46 E rfl rfl ⟨Nat.le_of_ble_eq_true rfl, Nat.le_of_ble_eq_true rfl⟩) rfl rfl (Nat.le_of_ble_eq_true rfl) ⟨Nat.zero_le _, Nat.zero_le _⟩ d_Pa_goTo_10 ?_
    refine g_iinc (lv' := [(3, .int (nI (k + 1))), (0, .ref (ad 4)), (1, .int (nI i)), (2, .int (nI y))]) E d_Pa_goTo_13 0 rfl (nI_inc _) (by decide) rfl ?_
    refine g_goto E 2 d_Pa_goTo_16 (by decide) ?_
    refine g_lv [0, 1, 2, 3] rfl ?_
    exact ih_2 (k + 1) (by (try dsimp only); omega) (by (try dsimp only); omega)

set_option maxHeartbeats 4000000 in
set_option maxRecDepth 100000 in
theorem C_Pa_careTaken (l : Launch) {V : gV} {ad r1 r2 r3 : Nat → Nat} {nY : Nat} {ix bu : Nat → Nat} {np : Nat} {st sr : Nat → Nat} {sx tk : Nat → Nat → Nat} {rn sh sn : Nat → Nat} {yw nw : Nat} {yo ce wo : Nat → Nat} {po ne : Nat → Option Nat} {cs : Nat → Nat} {sv : Nat → Nat → Nat} {mk : Nat} {sp rs : Nat → Int} {bg dp : Nat} (i : Nat) (hi : i < 12) (hs : st i ≤ 4) (ht : ∀ i j, tk i j ≤ 1000) (hb : sumN (fun a => sh a * tk i a) (st i) < 2 ^ 62) (hw : yw ≤ 11) : mPi l y_Pa_careTaken (w_Pa_careTaken :: gt) rm_Pa_careTaken V (wC V ad r1 r2 r3 nY ix bu np st sr sx tk rn sh sn yw nw yo ce wo po ne cs sv mk sp rs bg dp) [.ref (ad 4), .int (nI i)] (nI (sumN (fun a => sh a * tk i a) (st i) / 2 ^ (yw * 4))) := by
  refine gMet (V := V) (As := [.ref (ad 4), .int (nI i)]) (cc := c_Pa_careTaken) (maxL := 5) (ret := (some .int)) (by decide) rfl (Nat.le_of_ble_eq_true rfl) (fun a U h => ⟨h.1, h.2.2⟩) ?_
  intro p e s m below meth c E hr hlk hnm hv
  have hO := gO_r (locs1 := []) (ws := wC V ad r1 r2 r3 nY ix bu np st sr sx tk rn sh sn yw nw yo ce wo po ne cs sv mk sp rs bg dp) hv.2.1
  refine g_lconst (v := lN 0) E d_Pa_careTaken_0 (by decide) ?_
  refine g_lstore_n (lv' := [(2, .long (lN 0)), (0, .ref (ad 4)), (1, .int (nI i))]) E d_Pa_careTaken_1 rfl (by decide) rfl ?_
  refine g_iconst (v := nI 0) E d_Pa_careTaken_2 (by decide) ?_
  refine g_istore (lv' := [(4, .int (nI 0)), (2, .long (lN 0)), (0, .ref (ad 4)), (1, .int (nI i))]) E d_Pa_careTaken_3 (by decide) rfl ?_
  refine g_lv [0, 1, 2, 3] rfl ?_
  refine gloop (α := Nat × Nat) (fun a_ => gR s.heap []) (fun a_ => [(4, .int (nI a_.1)), (2, .long (lN a_.2)), (0, .ref (ad 4)), (1, .int (nI i))]) (fun a_ => a_.1 ≤ st i ∧ a_.2 = sumN (fun a => sh a * tk i a) a_.1) (fun a_ => st i - a_.1) (0, 0) (⟨Nat.zero_le _, rfl⟩) ?_
  rintro ⟨q, acc⟩ hI_5 ih_5
  try dsimp only at hI_5 ih_5 ⊢
  refine g_iload E d_Pa_careTaken_5 0 rfl ?_
  refine g_aload_n E d_Pa_careTaken_7 rfl 2 rfl ?_
  refine gf_Pa_9 E hO 4 rfl rfl d_Pa_careTaken_8 ?_
  refine g_iload_n E d_Pa_careTaken_11 rfl 3 rfl ?_
  refine g_ldN E hO 5 rfl (by omega) (by decide) d_Pa_careTaken_12 ?_
  refine g_ncmp_ge E 43 d_Pa_careTaken_13 (by decide) (by omega) (by omega) (fun h1 => ?_) (fun h1 => ?_)
  · refine g_lload_n E d_Pa_careTaken_43 rfl 1 rfl ?_
    refine g_aload_n E d_Pa_careTaken_44 rfl 2 rfl ?_
    refine gf_Pa_69 E hO 4 rfl rfl d_Pa_careTaken_45 ?_
    refine g_iconst (v := nI 4) E d_Pa_careTaken_48 (by decide) ?_
    refine g_imul E d_Pa_careTaken_49 ?_
    refine g_topi (pk_mul _ _) ?_
    refine g_lshr E d_Pa_careTaken_50 ?_
    refine g_topl (lN_shr (by rw [hI_5.2, show q = st i by omega]; exact hb) (by omega)) ?_
    refine g_l2i E d_Pa_careTaken_51 ?_
    refine g_topi (lN_i _) ?_
    exact g_iret E hr hlk d_Pa_careTaken_52 (gq_i (by rw [hI_5.2, show q = st i by omega]))
  · refine g_lload_n E d_Pa_careTaken_16 rfl 1 rfl ?_
    refine g_aload_n E d_Pa_careTaken_17 rfl 2 rfl ?_
    refine gf_Pa_27 E hO 4 rfl rfl d_Pa_careTaken_18 ?_
    refine g_iload E d_Pa_careTaken_21 0 rfl ?_
    refine g_ldL E hO 10 rfl (by omega) (by decide) d_Pa_careTaken_23 ?_
    refine g_aload_n E d_Pa_careTaken_24 rfl 2 rfl ?_
    refine gf_Pa_21 E hO 4 rfl rfl d_Pa_careTaken_25 ?_
    refine g_iload_n E d_Pa_careTaken_28 rfl 3 rfl ?_
    refine g_aaload E hO 8 rfl (by omega) (by decide) d_Pa_careTaken_29 ?_
    refine g_iload E d_Pa_careTaken_30 0 rfl ?_
    refine g_ldN E hO (34 + i) (wC_g2 (by omega)) (by omega) (by decide) d_Pa_careTaken_32 ?_
    refine g_i2l E d_Pa_careTaken_33 ?_
    refine g_topl (nI_l (Nat.lt_of_le_of_lt (ht _ _) (by decide))) ?_
    refine g_lmul E d_Pa_careTaken_34 ?_
    refine g_topl (lN_mul _ _) ?_
    refine g_ladd E d_Pa_careTaken_35 ?_
    refine g_topl (lN_add _ _) ?_
    refine g_lstore_n (lv' := [(2, .long (lN (acc + ((sh q) * (tk i q))))), (4, .int (nI q)), (0, .ref (ad 4)), (1, .int (nI i))]) E d_Pa_careTaken_36 rfl (by decide) rfl ?_
    refine g_iinc (lv' := [(4, .int (nI (q + 1))), (2, .long (lN (acc + ((sh q) * (tk i q))))), (0, .ref (ad 4)), (1, .int (nI i))]) E d_Pa_careTaken_37 1 rfl (nI_inc _) (by decide) rfl ?_
    refine g_goto E 5 d_Pa_careTaken_40 (by decide) ?_
    refine g_lv [0, 1, 2, 3] rfl ?_
    exact ih_5 (q + 1, acc + ((sh q) * (tk i q))) (⟨by (try dsimp only); omega, by (try dsimp only); rw [hI_5.2]; rfl⟩) (by (try dsimp only); omega)

/-- the state with the greatest share, of alike ones the greatest -/
def grS (sh : Nat → Nat) : Nat → Nat
  | 0 => 0
  | k + 1 => if sh (grS sh k) ≤ sh (k + 1) then k + 1 else grS sh k
theorem grS_le (sh : Nat → Nat) : ∀ k, grS sh k ≤ k
  | 0 => Nat.le_refl _
  | k + 1 => by
    have := grS_le sh k
    unfold grS
    split <;> omega

set_option maxHeartbeats 4000000 in
set_option maxRecDepth 100000 in
theorem C_Pa_greatestState (l : Launch) {V : gV} {ad r1 r2 r3 : Nat → Nat} {nY : Nat} {ix bu : Nat → Nat} {np : Nat} {st sr : Nat → Nat} {sx tk : Nat → Nat → Nat} {rn sh sn : Nat → Nat} {yw nw : Nat} {yo ce wo : Nat → Nat} {po ne : Nat → Option Nat} {cs : Nat → Nat} {sv : Nat → Nat → Nat} {mk : Nat} {sp rs : Nat → Int} {bg dp : Nat} (i : Nat) (hi : i < 12) (hs1 : 2 ≤ st i) (hs : st i ≤ 4) (hb : ∀ a, a < 4 → sh a < 2 ^ 62) : mPi l y_Pa_greatestState (w_Pa_greatestState :: gt) rm_Pa_greatestState V (wC V ad r1 r2 r3 nY ix bu np st sr sx tk rn sh sn yw nw yo ce wo po ne cs sv mk sp rs bg dp) [.ref (ad 4), .int (nI i)] (nI (grS sh (st i - 1))) := by
  refine gMet (V := V) (As := [.ref (ad 4), .int (nI i)]) (cc := c_Pa_greatestState) (maxL := 4) (ret := (some .int)) (by decide) rfl (Nat.le_of_ble_eq_true rfl) (fun a U h => ⟨h.1, h.2.2⟩) ?_
  intro p e s m below meth c E hr hlk hnm hv
  have hO := gO_r (locs1 := []) (ws := wC V ad r1 r2 r3 nY ix bu np st sr sx tk rn sh sn yw nw yo ce wo po ne cs sv mk sp rs bg dp) hv.2.1
  refine g_iconst (v := nI 0) E d_Pa_greatestState_0 (by decide) ?_
  refine g_istore_n (lv' := [(2, .int (nI 0)), (0, .ref (ad 4)), (1, .int (nI i))]) E d_Pa_greatestState_1 rfl (by decide) rfl ?_
  refine g_iconst (v := nI 1) E d_Pa_greatestState_2 (by decide) ?_
  refine g_istore_n (lv' := [(3, .int (nI 1)), (2, .int (nI 0)), (0, .ref (ad 4)), (1, .int (nI i))]) E d_Pa_greatestState_3 rfl (by decide) rfl ?_
  refine g_lv [0, 1, 2, 3] rfl ?_
  refine gloop (α := Nat × Nat) (fun a_ => gR s.heap []) (fun a_ => [(3, .int (nI (a_.1 + 1))), (2, .int (nI a_.2)), (0, .ref (ad 4)), (1, .int (nI i))]) (fun a_ => a_.1 + 1 ≤ st i ∧ a_.2 = grS sh a_.1) (fun a_ => st i - a_.1) (0, 0) (⟨by (try dsimp only); omega, rfl⟩) ?_
  rintro ⟨k, b⟩ hI_4 ih_4
  try dsimp only at hI_4 ih_4 ⊢
  refine g_iload_n E d_Pa_greatestState_4 rfl 0 rfl ?_
  refine g_aload_n E d_Pa_greatestState_5 rfl 2 rfl ?_
  refine gf_Pa_9 E hO 4 rfl rfl d_Pa_greatestState_6 ?_
  refine g_iload_n E d_Pa_greatestState_9 rfl 3 rfl ?_
  refine g_ldN E hO 5 rfl (by omega) (by decide) d_Pa_greatestState_10 ?_
  refine g_ncmp_ge E 38 d_Pa_greatestState_11 (by decide) (by omega) (by omega) (fun h1 => ?_) (fun h1 => ?_)
  · refine g_iload_n E d_Pa_greatestState_38 rfl 1 rfl ?_
    exact g_iret E hr hlk d_Pa_greatestState_39 (gq_i (by rw [hI_4.2, show k = st i - 1 by omega]))
  · have g1 := grS_le sh k
    rw [← hI_4.2] at g1
    have g2 := hb (k + 1) (by omega)
    have g3 := hb b (by omega)
    refine g_aload_n E d_Pa_greatestState_14 rfl 2 rfl ?_
    refine gf_Pa_27 E hO 4 rfl rfl d_Pa_greatestState_15 ?_
    refine g_iload_n E d_Pa_greatestState_18 rfl 0 rfl ?_
    refine g_ldL E hO 10 rfl (by omega) (by decide) d_Pa_greatestState_19 ?_
    refine g_aload_n E d_Pa_greatestState_20 rfl 2 rfl ?_
    refine gf_Pa_27 E hO 4 rfl rfl d_Pa_greatestState_21 ?_
    refine g_iload_n E d_Pa_greatestState_24 rfl 1 rfl ?_
    refine g_ldL E hO 10 rfl (by omega) (by decide) d_Pa_greatestState_25 ?_
    refine g_lcmp E d_Pa_greatestState_26 ?_
    refine g_if_lt E 32 d_Pa_greatestState_27 (by decide) (fun h2 => ?_) (fun h2 => ?_)
    · rw [lg_lt, pk_lLT (by omega) (by omega)] at h2
      have h2 := Nat.not_le.mpr h2
      refine g_iinc (lv' := [(3, .int (nI ((k + 1) + 1))), (2, .int (nI b)), (0, .ref (ad 4)), (1, .int (nI i))]) E d_Pa_greatestState_32 0 rfl (nI_inc _) (by decide) rfl ?_
      refine g_goto E 4 d_Pa_greatestState_35 (by decide) ?_
      refine g_lv [0, 1, 2, 3] rfl ?_
      exact ih_4 (k + 1, b) (⟨by (try dsimp only); omega, by (try dsimp only); rw [grS, ← hI_4.2]; simp [h2]⟩) (by (try dsimp only); omega)
    · rw [lg_lt, pk_lLT (by omega) (by omega)] at h2
      have h2 := Nat.not_lt.mp h2
      refine g_iload_n E d_Pa_greatestState_30 rfl 0 rfl ?_
      refine g_istore_n (lv' := [(2, .int (nI (k + 1))), (3, .int (nI (k + 1))), (0, .ref (ad 4)), (1, .int (nI i))]) E d_Pa_greatestState_31 rfl (by decide) rfl ?_
      refine g_iinc (lv' := [(3, .int (nI ((k + 1) + 1))), (2, .int (nI (k + 1))), (0, .ref (ad 4)), (1, .int (nI i))]) E d_Pa_greatestState_32 1 rfl (nI_inc _) (by decide) rfl ?_
      refine g_goto E 4 d_Pa_greatestState_35 (by decide) ?_
      refine g_lv [0, 1, 2, 3] rfl ?_
      exact ih_4 (k + 1, k + 1) (⟨by (try dsimp only); omega, by (try dsimp only); rw [grS, ← hI_4.2]; simp [h2]⟩) (by (try dsimp only); omega)

/-- the rows of a new part: what stays is 16 -/
def dgN (M : Nat → Nat) : Nat → Nat → Nat
  | 0 => M
  | k + 1 => va_up (dgN M k) (k * 4 + k) 16

set_option maxHeartbeats 4000000 in
set_option maxRecDepth 100000 in
theorem C_Pa_add (l : Launch) {V : gV} {ad r1 r2 r3 : Nat → Nat} {nY : Nat} {ix bu : Nat → Nat} {np : Nat} {st sr : Nat → Nat} {sx tk : Nat → Nat → Nat} {rn sh sn : Nat → Nat} {yw nw : Nat} {yo ce wo : Nat → Nat} {po ne : Nat → Option Nat} {cs : Nat → Nat} {sv : Nat → Nat → Nat} {mk : Nat} {sp rs : Nat → Int} {bg dp : Nat} (k r : Nat) (hnp : np < 12) (hk : k ≤ 4) : mWi l y_Pa_add (w_Pa_add :: gt) rm_Pa_add V (wC V ad r1 r2 r3 nY ix bu np st sr sx tk rn sh sn yw nw yo ce wo po ne cs sv mk sp rs bg dp) [.ref (ad 4), .int (nI k), .int (nI r)] (nI np) (wC V ad r1 r2 r3 nY ix bu (np + 1) (va_up st np k) (va_up sr np r) (va_up sx np (dgN (sx np) k)) tk rn sh sn yw nw yo ce wo po ne cs sv mk sp rs bg dp) 0 0 := by
  intro sz
  refine gMet (V := V) (As := [.ref (ad 4), .int (nI k), .int (nI r)]) (cc := c_Pa_add) (maxL := 5) (ret := (some .int)) (by decide) rfl (Nat.le_of_ble_eq_true rfl) (fun a U h => ⟨h.1, h.2.2.2.1⟩) ?_
  intro p e s m below meth c E hr hlk hnm hv
  refine g_toW (sz := sz) (w := wC V ad r1 r2 r3 nY ix bu np st sr sx tk rn sh sn yw nw yo ce wo po ne cs sv mk sp rs bg dp) hv.2.2.1 hv.2.2.2.2 ?_
  have hA0 : ∀ q : Nat, s.heap.size ≤ q → va_A (wC V ad r1 r2 r3 nY ix bu np st sr sx tk rn sh sn yw nw yo ce wo po ne cs sv mk sp rs bg dp) sz q := fun q h => Or.inr (by rw [← hv.2.1]; exact h)
  refine g_aload_n E d_Pa_add_0 rfl 0 rfl ?_
  refine gf_Pa_34 E gO_w 4 rfl rfl d_Pa_add_1 ?_
  refine g_istore_n (lv' := [(3, .int (nI np)), (0, .ref (ad 4)), (1, .int (nI k)), (2, .int (nI r))]) E d_Pa_add_4 rfl (by decide) rfl ?_
  refine g_aload_n E d_Pa_add_5 rfl 1 rfl ?_
  refine g_dup E d_Pa_add_6 rfl ?_
  refine gf_Pa_34 E gO_w 4 rfl rfl d_Pa_add_7 ?_
  refine g_iconst (v := nI 1) E d_Pa_add_10 (by decide) ?_
  refine g_iadd E d_Pa_add_11 ?_
  refine g_topi (nI_add _ _) ?_
  refine pf_Pa_34 (ws' := wC V ad r1 r2 r3 nY ix bu (np + 1) st sr sx tk rn sh sn yw nw yo ce wo po ne cs sv mk sp rs bg dp) E 4 rfl rfl rfl (Nat.le_of_ble_eq_true rfl) rfl d_Pa_add_12 ?_
  refine g_aload_n E d_Pa_add_15 rfl 1 rfl ?_
  refine gf_Pa_9 E gO_w 4 rfl rfl d_Pa_add_16 ?_
  refine g_iload_n E d_Pa_add_19 rfl 0 rfl ?_
  refine g_iload_n E d_Pa_add_20 rfl 2 rfl ?_
  refine g_stN (ws' := wC V ad r1 r2 r3 nY ix bu (np + 1) (va_up st np k) sr sx tk rn sh sn yw nw yo ce wo po ne cs sv mk sp rs bg dp) E 5 rfl (by omega) (by decide) rfl d_Pa_add_21 ?_
  refine g_aload_n E d_Pa_add_22 rfl 1 rfl ?_
  refine gf_Pa_13 E gO_w 4 rfl rfl d_Pa_add_23 ?_
  refine g_iload_n E d_Pa_add_26 rfl 0 rfl ?_
  refine g_iload_n E d_Pa_add_27 rfl 3 rfl ?_
  refine g_stN (ws' := wC V ad r1 r2 r3 nY ix bu (np + 1) (va_up st np k) (va_up sr np r) sx tk rn sh sn yw nw yo ce wo po ne cs sv mk sp rs bg dp) E 6 rfl (by omega) (by decide) rfl d_Pa_add_28 ?_
  refine g_iconst (v := nI 0) E d_Pa_add_29 (by decide) ?_
  refine g_istore (lv' := [(4, .int (nI 0)), (3, .int (nI np)), (0, .ref (ad 4)), (1, .int (nI k)), (2, .int (nI r))]) E d_Pa_add_30 (by decide) rfl ?_
  refine g_lv [0, 2, 3, 4, 1] rfl ?_
  refine g_ws (ws' := wC V ad r1 r2 r3 nY ix bu (np + 1) (va_up st np k) (va_up sr np r) (va_up sx np (dgN (sx np) 0)) tk rn sh sn yw nw yo ce wo po ne cs sv mk sp rs bg dp) (by rw [dgN, va_id]) ?_
  refine gloop (α := Nat) (fun a_ => gW V _ _ (wC V ad r1 r2 r3 nY ix bu (np + 1) (va_up st np k) (va_up sr np r) (va_up sx np (dgN (sx np) a_)) tk rn sh sn yw nw yo ce wo po ne cs sv mk sp rs bg dp)) (fun a_ => [(4, .int (nI a_)), (0, .ref (ad 4)), (1, .int (nI k)), (2, .int (nI r)), (3, .int (nI np))]) (fun a_ => a_ ≤ k) (fun a_ => k - a_) (0) (Nat.zero_le _) ?_
  rintro j hI_32 ih_32
  try dsimp only at hI_32 ih_32 ⊢
  refine g_iload E d_Pa_add_32 0 rfl ?_
  refine g_iload_n E d_Pa_add_34 rfl 2 rfl ?_
  refine g_ncmp_ge E 55 d_Pa_add_35 (by decide) (by omega) (by omega) (fun h1 => ?_) (fun h1 => ?_)
  · refine g_iload_n E d_Pa_add_55 rfl 4 rfl ?_
    refine g_ws (ws' := wC V ad r1 r2 r3 nY ix bu (np + 1) (va_up st np k) (va_up sr np r) (va_up sx np (dgN (sx np) k)) tk rn sh sn yw nw yo ce wo po ne cs sv mk sp rs bg dp) (by rw [show j = k by omega]) ?_
    exact g_iret E hr hlk d_Pa_add_56 (gq_wi (w1 := fun _ => wC V ad r1 r2 r3 nY ix bu (np + 1) (va_up st np k) (va_up sr np r) (va_up sx np (dgN (sx np) k)) tk rn sh sn yw nw yo ce wo po ne cs sv mk sp rs bg dp) () (rfl))
  · refine g_aload_n E d_Pa_add_38 rfl 1 rfl ?_
    refine g_iload_n E d_Pa_add_39 rfl 4 rfl ?_
    refine g_iload E d_Pa_add_40 0 rfl ?_
    refine g_iload E d_Pa_add_42 0 rfl ?_
    refine g_bipush (v := nI 16) E d_Pa_add_44 (by decide) ?_
    refine gwVv (As := [.int (nI np), .int (nI j), .int (nI j), .int (nI 16)]) (rest := []) (w' := wC V ad r1 r2 r3 nY ix bu (np + 1) (va_up st np k) (va_up sr np r) (mUp (va_up sx np (dgN (sx np) j)) np (j * 4 + j) 16) tk rn sh sn yw nw yo ce wo po ne cs sv mk sp rs bg dp) (mc := 0) (ms := 0) E hA0 4 rfl rfl (C_Pa_setGoing l np j j 16 (by omega) (by omega) (by omega)) (cs_Pa_42 E rfl rfl ⟨Nat.le_of_ble_eq_true rfl, Nat.le_of_ble_eq_true rfl⟩) rfl rfl (Nat.le_of_ble_eq_true rfl) ⟨Nat.zero_le _, Nat.zero_le _⟩ d_Pa_add_46 ?_
    refine g_iinc (lv' := [(4, .int (nI (j + 1))), (0, .ref (ad 4)), (1, .int (nI k)), (2, .int (nI r)), (3, .int (nI np))]) E d_Pa_add_49 0 rfl (nI_inc _) (by decide) rfl ?_
    refine g_goto E 32 d_Pa_add_52 (by decide) ?_
    refine g_lv [0, 1, 2, 3, 4] rfl ?_
    refine g_ws (ws' := wC V ad r1 r2 r3 nY ix bu (np + 1) (va_up st np k) (va_up sr np r) (va_up sx np (dgN (sx np) (j + 1))) tk rn sh sn yw nw yo ce wo po ne cs sv mk sp rs bg dp) (by rw [dgN, mUp, va_up_self, bx_uu]) ?_
    exact ih_32 (j + 1) (by (try dsimp only); omega) (by (try dsimp only); omega)
end
section
/-! A loan, as functions on numbers. -/
def ri (x r : Nat) : Nat := (x * r + 9999) / 10000
def rB (c r p : Nat) : Nat → Nat
  | 0 => c
  | k + 1 => (rB c r p k + ri (rB c r p k) r) - p
def rTop : Nat → Nat
  | 0 => 1000000000
  | k + 1 => rTop k + (rTop k * 2000 + 9999) / 10000
theorem rTop_up : ∀ k, k ≤ 30 → rTop k ≤ 300000000000 := by decide +kernel
theorem ri_mono {x y r q : Nat} (h : x ≤ y) (hr : r ≤ q) : ri x r ≤ ri y q := by
  unfold ri
  exact Nat.div_le_div_right (Nat.add_le_add_right (Nat.mul_le_mul h hr) _)
theorem rB_top {c r p : Nat} (hc : c ≤ 1000000000) (hr : r ≤ 2000) : ∀ k, rB c r p k ≤ rTop k
  | 0 => hc
  | k + 1 => by
    have h := rB_top (p := p) hc hr k
    have h2 := ri_mono h hr
    simp only [rB, rTop]
    unfold ri at h2 ⊢
    omega
theorem rB_le {c r p k : Nat} (hc : c ≤ 1000000000) (hr : r ≤ 2000) (hk : k ≤ 30) : rB c r p k ≤ 300000000000 := Nat.le_trans (rB_top hc hr k) (rTop_up k hk)
theorem lmax_sub {a p : Nat} (ha : a < 2 ^ 62) (hp : p < 2 ^ 62) : (if lN 0 < lN a - lN p then lN a - lN p else lN 0) = lN (a - p) := by
  rcases Nat.le_total p a with h | h
  · rw [lN_sub h]
    by_cases e : a - p = 0
    · rw [e]; rw [if_neg (by rw [pk_lLT (by decide) (by decide)]; omega)]
    · rw [if_pos (by rw [pk_lLT (by decide) (by omega)]; omega)]
  · have e : lN a - lN p = lI ((a : Int) - (p : Int)) := by rw [lN_lI, lN_lI, lI_sub]
    rw [if_neg (by rw [e, show lN 0 = lI 0 from lN_lI 0, lI_lt (by decide) (by decide) (by omega) (by omega)]; omega), show a - p = 0 by omega]
theorem lg_le0 {a : Nat} (h : a < 2 ^ 63) : lg_cmp (lN a) (lN 0) ≤ 0 ↔ a = 0 := by
  have e : lg_cmp (lN a) (lN 0) ≤ 0 ↔ ¬ 0 < lg_cmp (lN a) (lN 0) := Int32.not_lt.symm
  rw [e, lg_gt, pk_lLT (by decide) h]
  omega
/-- the greatest payment that is too little, by its bits from the highest on -/
def lpN (c r n : Nat) : Nat → Nat
  | 0 => 0
  | j + 1 => if rB c r (lpN c r n j + 2 ^ (30 - j)) n = 0 then lpN c r n j else lpN c r n j + 2 ^ (30 - j)
theorem lpN_lt (c r n : Nat) : ∀ j, j ≤ 31 → lpN c r n j + 2 ^ (31 - j) ≤ 2 ^ 31
  | 0, _ => by simp [lpN]
  | j + 1, h => by
    have h1 := lpN_lt c r n j (by omega)
    have e : 2 ^ (31 - j) = 2 ^ (30 - j) + 2 ^ (30 - j) := by
      rw [show 31 - j = (30 - j) + 1 by omega, Nat.pow_succ]; omega
    rw [show 31 - (j + 1) = 30 - j by omega]
    have hd := Nat.two_pow_pos (30 - j)
    unfold lpN
    split <;> omega
theorem iI_dec (z : Int) : iI z + Int32.ofInt (-1) = iI (z - 1) := by
  show iI z + iI (-1) = _
  rw [iI_add]; rfl
theorem zif_lt {z : Int} (h1 : -2147483648 ≤ z) (h2 : z < 2147483648) : iI z < 0 ↔ z < 0 := by
  rw [show (0 : Int32) = iI 0 from rfl]; exact iI_lt h1 h2 (by decide) (by decide)
end
section
/-- cents, rate and years of a loan -/
def isL (a b c : Int32) : Bool := inB a (nI 1) (nI 1000000000) && inB b (nI 0) (nI 2000) && inB c (nI 1) (nI 30)

set_option maxHeartbeats 4000000 in
set_option maxRecDepth 100000 in
theorem C_Lo_isOne (l : Launch) {V : gV} {w : va_W} (x y z : Int32) : mPi l y_Lo_isOne (w_Lo_isOne :: gt) rm_Lo_isOne V (w  ) [.int x, .int y, .int z] (bI (isL x y z)) := by
  refine gMet (V := V) (As := [.int x, .int y, .int z]) (cc := c_Lo_isOne) (maxL := 3) (ret := (some .boolean)) (by decide) rfl (Nat.le_of_ble_eq_true rfl) (fun a U h => ⟨h.1, h.2.2⟩) ?_
  intro p e s m below meth c E hr hlk hnm hv
  have hO := gO_r (locs1 := []) (ws := w  ) hv.2.1
  refine g_iload_n E d_Lo_isOne_0 rfl 0 rfl ?_
  refine g_iconst (v := nI 1) E d_Lo_isOne_1 (by decide) ?_
  refine g_ldc E kk_Lo_9 d_Lo_isOne_2 ?_
  refine g_topi (show ((1000000000) : Int32) = nI 1000000000 from by decide) ?_
  refine gpNi (As := [.int x, .int (nI 1), .int (nI 1000000000)]) (rest := []) E hO (C_CY_isWithin l x (nI 1) (nI 1000000000)) (cs_Lo_10 E rfl rfl ⟨Nat.le_of_ble_eq_true rfl, Nat.le_of_ble_eq_true rfl⟩) rfl rfl (Nat.le_of_ble_eq_true rfl) ⟨Nat.zero_le _, Nat.zero_le _⟩ d_Lo_isOne_4 ?_
  refine g_bif_eq E 35 d_Lo_isOne_7 (by decide) (fun h1 => ?_) (fun h1 => ?_)
  · refine g_iconst (v := nI 0) E d_Lo_isOne_35 (by decide) ?_
    exact g_zret E hr hlk d_Lo_isOne_36 (Or.inl rfl) (gq_i (by simp only [isL, h1, Bool.false_and, Bool.true_and, Bool.and_false, Bool.and_true]; rfl))
  · refine g_iload_n E d_Lo_isOne_10 rfl 1 rfl ?_
    refine g_iconst (v := nI 0) E d_Lo_isOne_11 (by decide) ?_
    refine g_sipush (v := nI 2000) E d_Lo_isOne_12 (by decide) ?_
    refine gpNi (As := [.int y, .int (nI 0), .int (nI 2000)]) (rest := []) E hO (C_CY_isWithin l y (nI 0) (nI 2000)) (cs_Lo_10 E rfl rfl ⟨Nat.le_of_ble_eq_true rfl, Nat.le_of_ble_eq_true rfl⟩) rfl rfl (Nat.le_of_ble_eq_true rfl) ⟨Nat.zero_le _, Nat.zero_le _⟩ d_Lo_isOne_15 ?_
    refine g_bif_eq E 35 d_Lo_isOne_18 (by decide) (fun h2 => ?_) (fun h2 => ?_)
    · refine g_iconst (v := nI 0) E d_Lo_isOne_35 (by decide) ?_
      exact g_zret E hr hlk d_Lo_isOne_36 (Or.inl rfl) (gq_i (by simp only [isL, h1, h2, Bool.false_and, Bool.true_and, Bool.and_false, Bool.and_true]; rfl))
    · refine g_iload_n E d_Lo_isOne_21 rfl 2 rfl ?_
      refine g_iconst (v := nI 1) E d_Lo_isOne_22 (by decide) ?_
      refine g_bipush (v := nI 30) E d_Lo_isOne_23 (by decide) ?_
      refine gpNi (As := [.int z, .int (nI 1), .int (nI 30)]) (rest := []) E hO (C_CY_isWithin l z (nI 1) (nI 30)) (cs_Lo_10 E rfl rfl ⟨Nat.le_of_ble_eq_true rfl, Nat.le_of_ble_eq_true rfl⟩) rfl rfl (Nat.le_of_ble_eq_true rfl) ⟨Nat.zero_le _, Nat.zero_le _⟩ d_Lo_isOne_25 ?_
      refine g_bif_eq E 35 d_Lo_isOne_28 (by decide) (fun h3 => ?_) (fun h3 => ?_)
      · refine g_iconst (v := nI 0) E d_Lo_isOne_35 (by decide) ?_
        exact g_zret E hr hlk d_Lo_isOne_36 (Or.inl rfl) (gq_i (by simp only [isL, h1, h2, h3, Bool.false_and, Bool.true_and, Bool.and_false, Bool.and_true]; rfl))
      · refine g_iconst (v := nI 1) E d_Lo_isOne_31 (by decide) ?_
        refine g_goto E 36 d_Lo_isOne_32 (by decide) ?_
        exact g_zret E hr hlk d_Lo_isOne_36 (Or.inr rfl) (gq_i (by simp only [isL, h1, h2, h3, Bool.false_and, Bool.true_and, Bool.and_false, Bool.and_true]; rfl))

set_option maxHeartbeats 4000000 in
set_option maxRecDepth 100000 in
theorem C_Lo_restBehind (l : Launch) {V : gV} {w : va_W} (n k r q : Nat) (hn : n ≤ 30) (hc : k ≤ 1000000000) (hrt : r ≤ 2000) (hq : q < 2 ^ 40) : mPl l y_Lo_restBehind (w_Lo_restBehind :: gt) rm_Lo_restBehind V (w  ) [.int (nI n), .int (nI k), .int (nI r), .long (lN q)] (lN (rB k r q n)) := by
  refine gMet (V := V) (As := [.int (nI n), .int (nI k), .int (nI r), .long (lN q)]) (cc := c_Lo_restBehind) (maxL := 10) (ret := (some .long)) (by decide) rfl (Nat.le_of_ble_eq_true rfl) (fun a U h => ⟨h.1, h.2.2⟩) ?_
  intro p e s m below meth c E hr hlk hnm hv
  have hO := gO_r (locs1 := []) (ws := w  ) hv.2.1
  refine g_iload_n E d_Lo_restBehind_0 rfl 1 rfl ?_
  refine g_i2l E d_Lo_restBehind_1 ?_
  refine g_topl (nI_l (by omega)) ?_
  refine g_lstore (lv' := [(5, .long (lN k)), (0, .int (nI n)), (1, .int (nI k)), (2, .int (nI r)), (3, .long (lN q))]) E d_Lo_restBehind_2 (by decide) rfl ?_
  refine g_iconst (v := nI 0) E d_Lo_restBehind_4 (by decide) ?_
  refine g_istore (lv' := [(7, .int (nI 0)), (5, .long (lN k)), (0, .int (nI n)), (1, .int (nI k)), (2, .int (nI r)), (3, .long (lN q))]) E d_Lo_restBehind_5 (by decide) rfl ?_
  refine g_lv [0, 1, 2, 3, 4, 5] rfl ?_
  refine gloop (α := Nat × Nat) (fun a_ => gR s.heap []) (fun a_ => [(7, .int (nI a_.1)), (5, .long (lN a_.2)), (0, .int (nI n)), (1, .int (nI k)), (2, .int (nI r)), (3, .long (lN q))]) (fun a_ => a_.1 ≤ n ∧ a_.2 = rB k r q a_.1) (fun a_ => n - a_.1) (0, k) (⟨Nat.zero_le _, rfl⟩) ?_
  rintro ⟨i, x⟩ hI_7 ih_7
  try dsimp only at hI_7 ih_7 ⊢
  refine g_iload E d_Lo_restBehind_7 0 rfl ?_
  refine g_iload_n E d_Lo_restBehind_9 rfl 2 rfl ?_
  refine g_ncmp_ge E 49 d_Lo_restBehind_10 (by decide) (by omega) (by omega) (fun h1 => ?_) (fun h1 => ?_)
  · refine g_lload E d_Lo_restBehind_49 1 rfl ?_
    exact g_lret E hr hlk d_Lo_restBehind_51 (gq_l (by rw [hI_7.2, show i = n by omega]))
  · have b1 := rB_le (p := q) (k := i) hc hrt (by omega)
    rw [← hI_7.2] at b1
    have b2 := Nat.mul_le_mul b1 hrt
    refine g_lload E d_Lo_restBehind_13 1 rfl ?_
    refine g_iload_n E d_Lo_restBehind_15 rfl 4 rfl ?_
    refine g_i2l E d_Lo_restBehind_16 ?_
    refine g_topl (nI_l (by omega)) ?_
    refine g_lmul E d_Lo_restBehind_17 ?_
    refine g_topl (lN_mul _ _) ?_
    refine g_ldc2 E kk_Lo_16 d_Lo_restBehind_18 ?_
    refine g_topl (show ((10000) : Int64) = lN 10000 from by decide) ?_
    refine g_ladd E d_Lo_restBehind_21 ?_
    refine g_topl (lN_add _ _) ?_
    refine g_lconst (v := lN 1) E d_Lo_restBehind_22 (by decide) ?_
    refine g_lsub E d_Lo_restBehind_23 ?_
    refine g_topl ((lN_sub (by omega)).trans (congrArg lN (show x * r + 10000 - 1 = x * r + 9999 by omega))) ?_
    refine g_ldc2 E kk_Lo_16 d_Lo_restBehind_24 ?_
    refine g_topl (show ((10000) : Int64) = lN 10000 from by decide) ?_
    refine g_ldiv E d_Lo_restBehind_27 (by decide) ?_
    refine g_topl (pk_lDiv (by omega) (by decide) (by decide)) ?_
    refine g_lstore (lv' := [(8, .long (lN ((x * r + 9999) / 10000))), (7, .int (nI i)), (5, .long (lN x)), (0, .int (nI n)), (1, .int (nI k)), (2, .int (nI r)), (3, .long (lN q))]) E d_Lo_restBehind_28 (by decide) rfl ?_
    refine g_lload E d_Lo_restBehind_30 2 rfl ?_
    refine g_lload E d_Lo_restBehind_32 0 rfl ?_
    refine g_ladd E d_Lo_restBehind_34 ?_
    refine g_topl (lN_add _ _) ?_
    refine g_lload_n E d_Lo_restBehind_35 rfl 6 rfl ?_
    refine g_lsub E d_Lo_restBehind_36 ?_
    refine g_lconst (v := lN 0) E d_Lo_restBehind_37 (by decide) ?_
    refine g_maxJ E kl_Lo_18 (Nat.le_of_ble_eq_true rfl) (Nat.le_of_ble_eq_true rfl) (Nat.zero_le _) (Nat.zero_le _) d_Lo_restBehind_38 ?_
    refine g_topl (lmax_sub (by omega) (by omega)) ?_
    refine g_lstore (lv' := [(5, .long (lN (x + (x * r + 9999) / 10000 - q))), (8, .long (lN ((x * r + 9999) / 10000))), (7, .int (nI i)), (0, .int (nI n)), (1, .int (nI k)), (2, .int (nI r)), (3, .long (lN q))]) E d_Lo_restBehind_41 (by decide) rfl ?_
    refine g_iinc (lv' := [(7, .int (nI (i + 1))), (5, .long (lN (x + (x * r + 9999) / 10000 - q))), (8, .long (lN ((x * r + 9999) / 10000))), (0, .int (nI n)), (1, .int (nI k)), (2, .int (nI r)), (3, .long (lN q))]) E d_Lo_restBehind_43 2 rfl (nI_inc _) (by decide) rfl ?_
    refine g_goto E 7 d_Lo_restBehind_46 (by decide) ?_
    refine g_lv [0, 1, 3, 4, 5, 6] rfl ?_
    exact ih_7 (i + 1, x + (x * r + 9999) / 10000 - q) (⟨by (try dsimp only); omega, by (try dsimp only); rw [rB, ← hI_7.2, ri]⟩) (by (try dsimp only); omega)

set_option maxHeartbeats 4000000 in
set_option maxRecDepth 100000 in
theorem C_Lo_leastPayment (l : Launch) {V : gV} {w : va_W} (k r n : Nat) (hc : k ≤ 1000000000) (hrt : r ≤ 2000) (hn : n ≤ 30) : mPi l y_Lo_leastPayment (w_Lo_leastPayment :: gt) rm_Lo_leastPayment V (w  ) [.int (nI k), .int (nI r), .int (nI n)] (nI (lpN k r n 31 + 1)) := by
  refine gMet (V := V) (As := [.int (nI k), .int (nI r), .int (nI n)]) (cc := c_Lo_leastPayment) (maxL := 8) (ret := (some .int)) (by decide) rfl (Nat.le_of_ble_eq_true rfl) (fun a U h => ⟨h.1, h.2.2⟩) ?_
  intro p e s m below meth c E hr hlk hnm hv
  have hO := gO_r (locs1 := []) (ws := w  ) hv.2.1
  refine g_lconst (v := lN 0) E d_Lo_leastPayment_0 (by decide) ?_
  refine g_lstore_n (lv' := [(3, .long (lN 0)), (0, .int (nI k)), (1, .int (nI r)), (2, .int (nI n))]) E d_Lo_leastPayment_1 rfl (by decide) rfl ?_
  refine g_bipush (v := nI 30) E d_Lo_leastPayment_2 (by decide) ?_
  refine g_topi (nI_iI 30) ?_
  refine g_istore (lv' := [(5, .int (iI ((30 : Nat) : Int))), (3, .long (lN 0)), (0, .int (nI k)), (1, .int (nI r)), (2, .int (nI n))]) E d_Lo_leastPayment_4 (by decide) rfl ?_
  refine g_lv [0, 1, 2, 3, 4] rfl ?_
  refine gloop (α := Nat × Int × Nat) (fun a_ => gR s.heap []) (fun a_ => [(5, .int (iI a_.2.1)), (3, .long (lN a_.2.2)), (0, .int (nI k)), (1, .int (nI r)), (2, .int (nI n))]) (fun a_ => a_.1 ≤ 31 ∧ a_.2.1 = 30 - (a_.1 : Int) ∧ a_.2.2 = lpN k r n a_.1) (fun a_ => 31 - a_.1) (0, ((30 : Nat) : Int), 0) (⟨by (try dsimp only); omega, by (try dsimp only); omega, rfl⟩) ?_
  rintro ⟨j, z, t⟩ hI_6 ih_6
  try dsimp only at hI_6 ih_6 ⊢
  refine g_iload E d_Lo_leastPayment_6 0 rfl ?_
  refine g_if_lt E 41 d_Lo_leastPayment_8 (by decide) (fun h1 => ?_) (fun h1 => ?_)
  · rw [zif_lt (by omega) (by omega)] at h1
    refine g_lload_n E d_Lo_leastPayment_41 rfl 1 rfl ?_
    refine g_lconst (v := lN 1) E d_Lo_leastPayment_42 (by decide) ?_
    refine g_ladd E d_Lo_leastPayment_43 ?_
    refine g_topl (lN_add _ _) ?_
    refine g_l2i E d_Lo_leastPayment_44 ?_
    refine g_topi (lN_i _) ?_
    exact g_iret E hr hlk d_Lo_leastPayment_45 (gq_i (by rw [hI_6.2.2, show j = 31 by omega]))
  · rw [zif_lt (by omega) (by omega)] at h1
    have b1 := lpN_lt k r n j (by omega)
    rw [← hI_6.2.2] at b1
    have b2 : 2 ^ (30 - j) ≤ 2 ^ (31 - j) := Nat.pow_le_pow_right (by decide) (by omega)
    refine g_lload_n E d_Lo_leastPayment_11 rfl 1 rfl ?_
    refine g_lconst (v := lN 1) E d_Lo_leastPayment_12 (by decide) ?_
    refine g_iload E d_Lo_leastPayment_13 0 rfl ?_
    refine g_topi (show iI z = nI (30 - j) from by rw [nI_iI]; congr 1; omega) ?_
    refine g_lshl E d_Lo_leastPayment_15 ?_
    refine g_topl ((wb_shl 1 (by omega)).trans (congrArg lN (Nat.one_mul _))) ?_
    refine g_ladd E d_Lo_leastPayment_16 ?_
    refine g_topl (lN_add _ _) ?_
    refine g_lstore (lv' := [(6, .long (lN (t + (2 ^ (30 - j))))), (5, .int (iI z)), (3, .long (lN t)), (0, .int (nI k)), (1, .int (nI r)), (2, .int (nI n))]) E d_Lo_leastPayment_17 (by decide) rfl ?_
    refine g_iload_n E d_Lo_leastPayment_19 rfl 5 rfl ?_
    refine g_iload_n E d_Lo_leastPayment_20 rfl 3 rfl ?_
    refine g_iload_n E d_Lo_leastPayment_21 rfl 4 rfl ?_
    refine g_lload E d_Lo_leastPayment_22 0 rfl ?_
    refine gpSl (As := [.int (nI n), .int (nI k), .int (nI r), .long (lN (t + (2 ^ (30 - j))))]) (rest := []) E hO (C_Lo_restBehind l n k r (t + (2 ^ (30 - j))) (by omega) (by omega) (by omega) (by omega)) (cs_Lo_24 E rfl rfl ⟨Nat.le_of_ble_eq_true rfl, Nat.le_of_ble_eq_true rfl⟩) rfl rfl (Nat.le_of_ble_eq_true rfl) ⟨Nat.zero_le _, Nat.zero_le _⟩ d_Lo_leastPayment_24 ?_
    refine g_lconst (v := lN 0) E d_Lo_leastPayment_27 (by decide) ?_
    refine g_lcmp E d_Lo_leastPayment_28 ?_
    refine g_if_le E 35 d_Lo_leastPayment_29 (by decide) (fun h2 => ?_) (fun h2 => ?_)
    · have b3 := rB_le (p := t + 2 ^ (30 - j)) (k := n) hc hrt hn
      rw [lg_le0 (by omega)] at h2
      refine g_iinc (lv' := [(5, .int (iI (z - 1))), (6, .long (lN (t + (2 ^ (30 - j))))), (3, .long (lN t)), (0, .int (nI k)), (1, .int (nI r)), (2, .int (nI n))]) E d_Lo_leastPayment_35 1 rfl (iI_dec _) (by decide) rfl ?_
      refine g_goto E 6 d_Lo_leastPayment_38 (by decide) ?_
      refine g_lv [0, 2, 3, 4, 5] rfl ?_
      exact ih_6 (j + 1, z - 1, t) (⟨by (try dsimp only); omega, by (try dsimp only); omega, by (try dsimp only); rw [lpN, ← hI_6.2.2]; simp [h2]⟩) (by (try dsimp only); omega)
    · have b3 := rB_le (p := t + 2 ^ (30 - j)) (k := n) hc hrt hn
      rw [lg_le0 (by omega)] at h2
      refine g_lload E d_Lo_leastPayment_32 0 rfl ?_
      refine g_lstore_n (lv' := [(3, .long (lN (t + (2 ^ (30 - j))))), (6, .long (lN (t + (2 ^ (30 - j))))), (5, .int (iI z)), (0, .int (nI k)), (1, .int (nI r)), (2, .int (nI n))]) E d_Lo_leastPayment_34 rfl (by decide) rfl ?_
      refine g_iinc (lv' := [(5, .int (iI (z - 1))), (3, .long (lN (t + (2 ^ (30 - j))))), (6, .long (lN (t + (2 ^ (30 - j))))), (0, .int (nI k)), (1, .int (nI r)), (2, .int (nI n))]) E d_Lo_leastPayment_35 2 rfl (iI_dec _) (by decide) rfl ?_
      refine g_goto E 6 d_Lo_leastPayment_38 (by decide) ?_
      refine g_lv [0, 1, 3, 4, 5] rfl ?_
      exact ih_6 (j + 1, z - 1, t + (2 ^ (30 - j))) (⟨by (try dsimp only); omega, by (try dsimp only); omega, by (try dsimp only); rw [lpN, ← hI_6.2.2]; simp [h2]⟩) (by (try dsimp only); omega)

set_option maxHeartbeats 4000000 in
set_option maxRecDepth 100000 in
theorem C_Wo_add (l : Launch) {V : gV} {ad r1 r2 r3 : Nat → Nat} {nY : Nat} {ix bu : Nat → Nat} {np : Nat} {st sr : Nat → Nat} {sx tk : Nat → Nat → Nat} {rn sh sn : Nat → Nat} {yw nw : Nat} {yo ce wo : Nat → Nat} {po ne : Nat → Option Nat} {cs : Nat → Nat} {sv : Nat → Nat → Nat} {mk : Nat} {sp rs : Nat → Int} {bg dp : Nat} (y k v : Nat) (q : Option Nat) (hnw : nw < 10) : mWi l y_Wo_add (w_Wo_add :: gt) rm_Wo_add V (wC V ad r1 r2 r3 nY ix bu np st sr sx tk rn sh sn yw nw yo ce wo po ne cs sv mk sp rs bg dp) [.ref (ad 12), .int (nI y), .int (nI k), .int (nI v), .int (oN q)] (nI nw) (wC V ad r1 r2 r3 nY ix bu np st sr sx tk rn sh sn yw (nw + 1) (va_up yo nw y) (va_up ce nw k) (va_up wo nw v) (va_up po nw q) (va_up ne nw none) cs sv mk sp rs bg dp) 0 0 := by
  intro sz
  refine gMet (V := V) (As := [.ref (ad 12), .int (nI y), .int (nI k), .int (nI v), .int (oN q)]) (cc := c_Wo_add) (maxL := 6) (ret := (some .int)) (by decide) rfl (Nat.le_of_ble_eq_true rfl) (fun a U h => ⟨h.1, h.2.2.2.1⟩) ?_
  intro p e s m below meth c E hr hlk hnm hv
  refine g_toW (sz := sz) (w := wC V ad r1 r2 r3 nY ix bu np st sr sx tk rn sh sn yw nw yo ce wo po ne cs sv mk sp rs bg dp) hv.2.2.1 hv.2.2.2.2 ?_
  have hA0 : ∀ q : Nat, s.heap.size ≤ q → va_A (wC V ad r1 r2 r3 nY ix bu np st sr sx tk rn sh sn yw nw yo ce wo po ne cs sv mk sp rs bg dp) sz q := fun q h => Or.inr (by rw [← hv.2.1]; exact h)
  refine g_aload_n E d_Wo_add_0 rfl 0 rfl ?_
  refine gf_Wo_44 E gO_w 12 rfl rfl d_Wo_add_1 ?_
  refine g_istore (lv' := [(5, .int (nI nw)), (0, .ref (ad 12)), (1, .int (nI y)), (2, .int (nI k)), (3, .int (nI v)), (4, .int (oN q))]) E d_Wo_add_4 (by decide) rfl ?_
  refine g_aload_n E d_Wo_add_6 rfl 1 rfl ?_
  refine g_dup E d_Wo_add_7 rfl ?_
  refine gf_Wo_44 E gO_w 12 rfl rfl d_Wo_add_8 ?_
  refine g_iconst (v := nI 1) E d_Wo_add_11 (by decide) ?_
  refine g_iadd E d_Wo_add_12 ?_
  refine g_topi (nI_add _ _) ?_
  refine pf_Wo_44 (ws' := wC V ad r1 r2 r3 nY ix bu np st sr sx tk rn sh sn yw (nw + 1) yo ce wo po ne cs sv mk sp rs bg dp) E 12 rfl rfl rfl (Nat.le_of_ble_eq_true rfl) rfl d_Wo_add_13 ?_
  refine g_aload_n E d_Wo_add_16 rfl 1 rfl ?_
  refine gf_Wo_11 E gO_w 12 rfl rfl d_Wo_add_17 ?_
  refine g_iload E d_Wo_add_20 0 rfl ?_
  refine g_iload_n E d_Wo_add_22 rfl 2 rfl ?_
  refine g_stN (ws' := wC V ad r1 r2 r3 nY ix bu np st sr sx tk rn sh sn yw (nw + 1) (va_up yo nw y) ce wo po ne cs sv mk sp rs bg dp) E 13 rfl (by omega) (by decide) rfl d_Wo_add_23 ?_
  refine g_aload_n E d_Wo_add_24 rfl 1 rfl ?_
  refine gf_Wo_15 E gO_w 12 rfl rfl d_Wo_add_25 ?_
  refine g_iload E d_Wo_add_28 0 rfl ?_
  refine g_iload_n E d_Wo_add_30 rfl 3 rfl ?_
  refine g_stN (ws' := wC V ad r1 r2 r3 nY ix bu np st sr sx tk rn sh sn yw (nw + 1) (va_up yo nw y) (va_up ce nw k) wo po ne cs sv mk sp rs bg dp) E 14 rfl (by omega) (by decide) rfl d_Wo_add_31 ?_
  refine g_aload_n E d_Wo_add_32 rfl 1 rfl ?_
  refine gf_Wo_18 E gO_w 12 rfl rfl d_Wo_add_33 ?_
  refine g_iload E d_Wo_add_36 0 rfl ?_
  refine g_iload_n E d_Wo_add_38 rfl 4 rfl ?_
  refine g_stN (ws' := wC V ad r1 r2 r3 nY ix bu np st sr sx tk rn sh sn yw (nw + 1) (va_up yo nw y) (va_up ce nw k) (va_up wo nw v) po ne cs sv mk sp rs bg dp) E 15 rfl (by omega) (by decide) rfl d_Wo_add_39 ?_
  refine g_aload_n E d_Wo_add_40 rfl 1 rfl ?_
  refine gf_Wo_21 E gO_w 12 rfl rfl d_Wo_add_41 ?_
  refine g_iload E d_Wo_add_44 0 rfl ?_
  refine g_iload E d_Wo_add_46 5 rfl ?_
  refine g_stO (ws' := wC V ad r1 r2 r3 nY ix bu np st sr sx tk rn sh sn yw (nw + 1) (va_up yo nw y) (va_up ce nw k) (va_up wo nw v) (va_up po nw q) ne cs sv mk sp rs bg dp) E 16 rfl (by omega) (by decide) rfl d_Wo_add_48 ?_
  refine g_aload_n E d_Wo_add_49 rfl 1 rfl ?_
  refine gf_Wo_24 E gO_w 12 rfl rfl d_Wo_add_50 ?_
  refine g_iload E d_Wo_add_53 0 rfl ?_
  refine g_iconst (v := oN none) E d_Wo_add_55 (by decide) ?_
  refine g_stO (ws' := wC V ad r1 r2 r3 nY ix bu np st sr sx tk rn sh sn yw (nw + 1) (va_up yo nw y) (va_up ce nw k) (va_up wo nw v) (va_up po nw q) (va_up ne nw none) cs sv mk sp rs bg dp) E 17 rfl (by omega) (by decide) rfl d_Wo_add_56 ?_
  refine g_iload E d_Wo_add_57 0 rfl ?_
  exact g_iret E hr hlk d_Wo_add_59 (gq_wi (w1 := fun _ => wC V ad r1 r2 r3 nY ix bu np st sr sx tk rn sh sn yw (nw + 1) (va_up yo nw y) (va_up ce nw k) (va_up wo nw v) (va_up po nw q) (va_up ne nw none) cs sv mk sp rs bg dp) () (rfl))

def rnN (po : Nat → Option Nat) (yo : Nat → Nat) (mk : Nat) : Nat → Nat → Nat
  | 0 => fun _ => 0
  | k + 1 => match po k with
    | none => rnN po yo mk k
    | some q => if mk.testBit k then va_up (rnN po yo mk k) q (sB (rnN po yo mk k q) (yo k) true) else rnN po yo mk k

set_option maxHeartbeats 4000000 in
set_option maxRecDepth 100000 in
theorem C_CY_renewParts (l : Launch) {V : gV} {ad r1 r2 r3 : Nat → Nat} {nY : Nat} {ix bu : Nat → Nat} {np : Nat} {st sr : Nat → Nat} {sx tk : Nat → Nat → Nat} {rn sh sn : Nat → Nat} {yw nw : Nat} {yo ce wo : Nat → Nat} {po ne : Nat → Option Nat} {cs : Nat → Nat} {sv : Nat → Nat → Nat} {mk : Nat} {sp rs : Nat → Int} {bg dp : Nat} (hnw : nw ≤ 10) (hmk : mk < 1024) (hyo : ∀ w, yo w < 12) (hpo : ∀ w q, po w = some q → q < 12) : mWv l y_CY_renewParts (w_CY_renewParts :: gt) rm_CY_renewParts V (wC V ad r1 r2 r3 nY ix bu np st sr sx tk rn sh sn yw nw yo ce wo po ne cs sv mk sp rs bg dp) [.ref (ad 0)] (wC V ad r1 r2 r3 nY ix bu np st sr sx tk (rnN po yo mk nw) sh sn yw nw yo ce wo po ne cs sv mk sp rs bg dp) 0 0 := by
  intro sz
  refine gMet (V := V) (As := [.ref (ad 0)]) (cc := c_CY_renewParts) (maxL := 3) (ret := none) (by decide) rfl (Nat.le_of_ble_eq_true rfl) (fun a U h => ⟨h.1, h.2.2.2.1⟩) ?_
  intro p e s m below meth c E hr hlk hnm hv
  refine g_toW (sz := sz) (w := wC V ad r1 r2 r3 nY ix bu np st sr sx tk rn sh sn yw nw yo ce wo po ne cs sv mk sp rs bg dp) hv.2.2.1 hv.2.2.2.2 ?_
  have hA0 : ∀ q : Nat, s.heap.size ≤ q → va_A (wC V ad r1 r2 r3 nY ix bu np st sr sx tk rn sh sn yw nw yo ce wo po ne cs sv mk sp rs bg dp) sz q := fun q h => Or.inr (by rw [← hv.2.1]; exact h)
  refine g_aload_n E d_CY_renewParts_0 rfl 0 rfl ?_
  refine gf_CY_30 E gO_w 0 rfl rfl d_CY_renewParts_1 ?_
  refine gf_CY_195 E gO_w 4 rfl rfl d_CY_renewParts_4 ?_
  refine g_iconst (v := nI 0) E d_CY_renewParts_7 (by decide) ?_
  refine gwSv (As := [.ref (ad 9), .int (nI 0)]) (rest := []) (w' := wC V ad r1 r2 r3 nY ix bu np st sr sx tk (fun _ => 0) sh sn yw nw yo ce wo po ne cs sv mk sp rs bg dp) (mc := 0) (ms := 0) E hA0 (C_fill_rn l) (cs_CY_198 E rfl rfl ⟨Nat.le_of_ble_eq_true rfl, Nat.le_of_ble_eq_true rfl⟩) rfl rfl (Nat.le_of_ble_eq_true rfl) ⟨Nat.zero_le _, Nat.zero_le _⟩ d_CY_renewParts_8 ?_
  refine g_iconst (v := nI 0) E d_CY_renewParts_11 (by decide) ?_
  refine g_istore_n (lv' := [(1, .int (nI 0)), (0, .ref (ad 0))]) E d_CY_renewParts_12 rfl (by decide) rfl ?_
  refine g_lv [0, 1] rfl ?_
  refine gloop (α := Nat) (fun a_ => gW V _ _ (wC V ad r1 r2 r3 nY ix bu np st sr sx tk (rnN po yo mk a_) sh sn yw nw yo ce wo po ne cs sv mk sp rs bg dp)) (fun a_ => [(1, .int (nI a_)), (0, .ref (ad 0))]) (fun a_ => a_ ≤ nw) (fun a_ => nw - a_) (0) (Nat.zero_le _) ?_
  rintro i hI_13 ih_13
  try dsimp only at hI_13 ih_13 ⊢
  refine g_iload_n E d_CY_renewParts_13 rfl 0 rfl ?_
  refine g_aload_n E d_CY_renewParts_14 rfl 1 rfl ?_
  refine gf_CY_39 E gO_w 0 rfl rfl d_CY_renewParts_15 ?_
  refine gf_CY_112 E gO_w 12 rfl rfl d_CY_renewParts_18 ?_
  refine g_ncmp_ge E 90 d_CY_renewParts_21 (by decide) (by omega) (by omega) (fun h1 => ?_) (fun h1 => ?_)
  · refine g_ws (ws' := wC V ad r1 r2 r3 nY ix bu np st sr sx tk (rnN po yo mk nw) sh sn yw nw yo ce wo po ne cs sv mk sp rs bg dp) (by rw [show i = nw by omega]) ?_
    exact g_vret E hr hlk d_CY_renewParts_90 (gq_wv (w1 := fun _ => wC V ad r1 r2 r3 nY ix bu np st sr sx tk (rnN po yo mk nw) sh sn yw nw yo ce wo po ne cs sv mk sp rs bg dp) () trivial)
  · refine g_aload_n E d_CY_renewParts_24 rfl 1 rfl ?_
    refine gf_CY_39 E gO_w 0 rfl rfl d_CY_renewParts_25 ?_
    refine gf_CY_204 E gO_w 12 rfl rfl d_CY_renewParts_28 ?_
    refine g_iload_n E d_CY_renewParts_31 rfl 0 rfl ?_
    refine g_ldO E gO_w 16 rfl (by omega) (by decide) d_CY_renewParts_32 ?_
    rcases hz : po i with _ | q
    · have _ := hz
      refine g_istore_n (lv' := [(2, .int (oN none)), (1, .int (nI i)), (0, .ref (ad 0))]) E d_CY_renewParts_33 rfl (by decide) rfl ?_
      refine g_iload_n E d_CY_renewParts_34 rfl 0 rfl ?_
      refine g_iconst (v := oN none) E d_CY_renewParts_35 (by decide) ?_
      refine g_icmp_eq E 84 d_CY_renewParts_36 (by decide) (fun h2 => ?_) (fun h2 => ?_)
      · refine g_iinc (lv' := [(1, .int (nI (i + 1))), (2, .int (oN none)), (0, .ref (ad 0))]) E d_CY_renewParts_84 1 rfl (nI_inc _) (by decide) rfl ?_
        refine g_goto E 13 d_CY_renewParts_87 (by decide) ?_
        refine g_lv [0, 2] rfl ?_
        refine g_ws (ws' := wC V ad r1 r2 r3 nY ix bu np st sr sx tk (rnN po yo mk (i + 1)) sh sn yw nw yo ce wo po ne cs sv mk sp rs bg dp) (by rw [rnN, hz]; try simp [h1, h2]) ?_
        exact ih_13 (i + 1) (by (try dsimp only); omega) (by (try dsimp only); omega)
      · exact absurd rfl h2
    · have hq := hpo i q hz
      refine g_topi (show oN (some q) = nI q from rfl) ?_
      refine g_istore_n (lv' := [(2, .int (nI q)), (1, .int (nI i)), (0, .ref (ad 0))]) E d_CY_renewParts_33 rfl (by decide) rfl ?_
      refine g_iload_n E d_CY_renewParts_34 rfl 0 rfl ?_
      refine g_iconst (v := oN none) E d_CY_renewParts_35 (by decide) ?_
      refine g_icmp_eq E 84 d_CY_renewParts_36 (by decide) (fun h3 => ?_) (fun h3 => ?_)
      · exact absurd h3 (by intro z; have := congrArg Int32.toInt z; rw [nI_toInt (by omega)] at this; have h2 : (oN none).toInt = -1 := (by decide); omega)
      · refine g_aload_n E d_CY_renewParts_39 rfl 2 rfl ?_
        refine gf_CY_39 E gO_w 0 rfl rfl d_CY_renewParts_40 ?_
        refine gf_CY_139 E gO_w 12 rfl rfl d_CY_renewParts_43 ?_
        refine g_iload_n E d_CY_renewParts_46 rfl 1 rfl ?_
        refine gpSi (As := [.int (nI mk), .int (nI i)]) (rest := []) E gO_w (C_CY_holds l mk i (by omega) (by omega)) (cs_CY_123 E rfl rfl ⟨Nat.le_of_ble_eq_true rfl, Nat.le_of_ble_eq_true rfl⟩) rfl rfl (Nat.le_of_ble_eq_true rfl) ⟨Nat.zero_le _, Nat.zero_le _⟩ d_CY_renewParts_47 ?_
        refine g_bif_eq E 84 d_CY_renewParts_50 (by decide) (fun h4 => ?_) (fun h4 => ?_)
        · refine g_iinc (lv' := [(1, .int (nI (i + 1))), (2, .int (nI q)), (0, .ref (ad 0))]) E d_CY_renewParts_84 1 rfl (nI_inc _) (by decide) rfl ?_
          refine g_goto E 13 d_CY_renewParts_87 (by decide) ?_
          refine g_lv [0, 2] rfl ?_
          refine g_ws (ws' := wC V ad r1 r2 r3 nY ix bu np st sr sx tk (rnN po yo mk (i + 1)) sh sn yw nw yo ce wo po ne cs sv mk sp rs bg dp) (by rw [rnN, hz]; try simp [h1, h3, h4]) ?_
          exact ih_13 (i + 1) (by (try dsimp only); omega) (by (try dsimp only); omega)
        · refine g_aload_n E d_CY_renewParts_53 rfl 2 rfl ?_
          refine gf_CY_30 E gO_w 0 rfl rfl d_CY_renewParts_54 ?_
          refine gf_CY_195 E gO_w 4 rfl rfl d_CY_renewParts_57 ?_
          refine g_iload_n E d_CY_renewParts_60 rfl 0 rfl ?_
          refine g_aload_n E d_CY_renewParts_61 rfl 2 rfl ?_
          refine gf_CY_30 E gO_w 0 rfl rfl d_CY_renewParts_62 ?_
          refine gf_CY_195 E gO_w 4 rfl rfl d_CY_renewParts_65 ?_
          refine g_iload_n E d_CY_renewParts_68 rfl 0 rfl ?_
          refine g_ldN E gO_w 9 rfl (by omega) (by decide) d_CY_renewParts_69 ?_
          refine g_aload_n E d_CY_renewParts_70 rfl 2 rfl ?_
          refine gf_CY_39 E gO_w 0 rfl rfl d_CY_renewParts_71 ?_
          refine gf_CY_207 E gO_w 12 rfl rfl d_CY_renewParts_74 ?_
          refine g_iload_n E d_CY_renewParts_77 rfl 1 rfl ?_
          have y1 := hyo i
          refine g_ldN E gO_w 13 rfl (by omega) (by decide) d_CY_renewParts_78 ?_
          refine g_iconst (v := nI 1) E d_CY_renewParts_79 (by decide) ?_
          refine g_topi (show nI 1 = bI true from rfl) ?_
          refine gpSi (As := [.int (nI ((rnN po yo mk i) q)), .int (nI (yo i)), .int (bI true)]) (rest := [.int (nI q), .ref (ad 9)]) E gO_w (C_CY_withBit l ((rnN po yo mk i) q) (yo i) true (by omega)) (cs_CY_126 E rfl rfl ⟨Nat.le_of_ble_eq_true rfl, Nat.le_of_ble_eq_true rfl⟩) rfl rfl (Nat.le_of_ble_eq_true rfl) ⟨Nat.zero_le _, Nat.zero_le _⟩ d_CY_renewParts_80 ?_
          refine g_stN (ws' := wC V ad r1 r2 r3 nY ix bu np st sr sx tk (va_up (rnN po yo mk i) q (sB ((rnN po yo mk i) q) (yo i) true)) sh sn yw nw yo ce wo po ne cs sv mk sp rs bg dp) E 9 rfl (by omega) (by decide) rfl d_CY_renewParts_83 ?_
          refine g_iinc (lv' := [(1, .int (nI (i + 1))), (2, .int (nI q)), (0, .ref (ad 0))]) E d_CY_renewParts_84 1 rfl (nI_inc _) (by decide) rfl ?_
          refine g_goto E 13 d_CY_renewParts_87 (by decide) ?_
          refine g_lv [0, 2] rfl ?_
          refine g_ws (ws' := wC V ad r1 r2 r3 nY ix bu np st sr sx tk (rnN po yo mk (i + 1)) sh sn yw nw yo ce wo po ne cs sv mk sp rs bg dp) (by rw [rnN, hz]; try simp [h1, h3, h4]) ?_
          exact ih_13 (i + 1) (by (try dsimp only); omega) (by (try dsimp only); omega)
end
section
/-! Care and the reserve, as functions on numbers. -/
theorem eY_ind {r : Nat} {M : Nat → Nat} {n rn : Nat} {sh sn sh' sn' : Nat → Nat} {yw yw' : Nat} : ∀ k, (eY r M n rn sh sn yw (k + 1)).1 = (eY r M n rn sh' sn' yw' (k + 1)).1 ∧ (eY r M n rn sh sn yw (k + 1)).2.1 = (eY r M n rn sh' sn' yw' (k + 1)).2.1 := by
  intro k
  induction k with
  | zero => simp [eY, enB]
  | succ k ih =>
    show (if enB rn (k + 1) then beg r else wrV (eY r M n rn sh sn yw (k + 1)).1 M n (eY r M n rn sh sn yw (k + 1)).1) = (if enB rn (k + 1) then beg r else wrV (eY r M n rn sh' sn' yw' (k + 1)).1 M n (eY r M n rn sh' sn' yw' (k + 1)).1) ∧ (if enB rn (k + 1) then 0 else (eY r M n rn sh sn yw (k + 1)).2.1 + 1) = (if enB rn (k + 1) then 0 else (eY r M n rn sh' sn' yw' (k + 1)).2.1 + 1)
    rw [ih.1, ih.2]
    exact ⟨rfl, rfl⟩
/-- a part's shares in year y, and the years worn -/
def shC (r : Nat) (M : Nat → Nat) (n rn y : Nat) : Nat → Nat := (eY r M n rn (fun _ => 0) (fun _ => 0) 0 (y + 1)).1
def ywC (r : Nat) (M : Nat → Nat) (n rn y : Nat) : Nat := (eY r M n rn (fun _ => 0) (fun _ => 0) 0 (y + 1)).2.1
theorem eY_sh {r : Nat} {M : Nat → Nat} {n rn : Nat} {sh sn : Nat → Nat} {yw : Nat} (y : Nat) : (eY r M n rn sh sn yw (y + 1)).1 = shC r M n rn y := (eY_ind y).1
theorem eY_yw {r : Nat} {M : Nat → Nat} {n rn : Nat} {sh sn : Nat → Nat} {yw : Nat} (y : Nat) : (eY r M n rn sh sn yw (y + 1)).2.1 = ywC r M n rn y := (eY_ind y).2
theorem shC_sum {r : Nat} {M : Nat → Nat} {n rn y : Nat} (hr : r < n) (hM : ∀ a, a < n → sumN (fun j => M (a * 4 + j)) n = 16) (hy : y < 12) : sumN (shC r M n rn y) n = 16 ^ ywC r M n rn y ∧ ywC r M n rn y ≤ 11 := by
  have h := eY_sum (rn := rn) (sh := fun _ => 0) (sn := fun _ => 0) (yw := 0) hr hM y
  exact ⟨h.1, by have := h.2; unfold ywC; omega⟩
/-- what a part's care takes in year y (before the index) -/
def tkC (r : Nat) (M : Nat → Nat) (n rn : Nat) (tk : Nat → Nat) (y : Nat) : Nat := sumN (fun a => shC r M n rn y a * tk a) n / 2 ^ (ywC r M n rn y * 4)
theorem tk_bd {r : Nat} {M : Nat → Nat} {n rn y : Nat} {tk : Nat → Nat} (hr : r < n) (hM : ∀ a, a < n → sumN (fun j => M (a * 4 + j)) n = 16) (hy : y < 12) (ht : ∀ a, tk a ≤ 1000) : sumN (fun a => shC r M n rn y a * tk a) n ≤ 16 ^ ywC r M n rn y * 1000 := by
  rw [← (shC_sum (rn := rn) hr hM hy).1, ← sumN_mulR]
  have : ∀ k, sumN (fun a => shC r M n rn y a * tk a) k ≤ sumN (fun a => shC r M n rn y a * 1000) k := by
    intro k
    induction k with
    | zero => exact Nat.le_refl _
    | succ k ih => simp only [sumN]; have := Nat.mul_le_mul_left (shC r M n rn y k) (ht k); omega
  exact this n
theorem tk_lt {r : Nat} {M : Nat → Nat} {n rn y : Nat} {tk : Nat → Nat} (hr : r < n) (hM : ∀ a, a < n → sumN (fun j => M (a * 4 + j)) n = 16) (hy : y < 12) (ht : ∀ a, tk a ≤ 1000) : sumN (fun a => shC r M n rn y a * tk a) n < 2 ^ 62 := by
  have h1 := tk_bd (rn := rn) hr hM hy ht
  have h2 := pow16 (shC_sum (rn := rn) hr hM hy).2
  omega
theorem pow24 (k : Nat) : 2 ^ (k * 4) = 16 ^ k := by rw [Nat.mul_comm, Nat.pow_mul]
theorem tkC_le {r : Nat} {M : Nat → Nat} {n rn y : Nat} {tk : Nat → Nat} (hr : r < n) (hM : ∀ a, a < n → sumN (fun j => M (a * 4 + j)) n = 16) (hy : y < 12) (ht : ∀ a, tk a ≤ 1000) : tkC r M n rn tk y ≤ 1000 := by
  unfold tkC
  rw [pow24]
  exact Nat.div_le_of_le_mul (tk_bd hr hM hy ht)
/-- what part i's care costs in year y -/
def cY (ix st sr : Nat → Nat) (sx tk : Nat → Nat → Nat) (rn : Nat → Nat) (i y : Nat) : Nat := tkC (sr i) (sx i) (st i) (rn i) (tk i) y * ix y / 1000
/-- what is left over behind the parts below p, with the shares as they are left -/
def tE (nY : Nat) (st sr : Nat → Nat) (sx : Nat → Nat → Nat) (rn sh sn : Nat → Nat) (yw : Nat) : Nat → (Nat → Nat) × Nat × (Nat → Nat)
  | 0 => (sh, yw, sn)
  | p + 1 => eY (sr p) (sx p) (st p) (rn p) (tE nY st sr sx rn sh sn yw p).1 (tE nY st sr sx rn sh sn yw p).2.2 (tE nY st sr sx rn sh sn yw p).2.1 nY
/-- the year's part of the reserve -/
def dY (ix st sr : Nat → Nat) (sx tk : Nat → Nat → Nat) (rn : Nat → Nat) (c : Nat → Int) (dp p y : Nat) : Int := (dp : Int) - c y - sumZ (fun i => (cY ix st sr sx tk rn i y : Int)) p
/-- the reserve of year y -/
def rV (ix st sr : Nat → Nat) (sx tk : Nat → Nat → Nat) (rn : Nat → Nat) (c : Nat → Int) (bg dp np y : Nat) : Int := (bg : Int) + sumZ (dY ix st sr sx tk rn c dp np) (y + 1)
end
section
set_option maxHeartbeats 4000000 in
set_option maxRecDepth 100000 in
theorem C_CY_takeCareFromReserves (l : Launch) {V : gV} {ad r1 r2 r3 : Nat → Nat} {nY : Nat} {ix bu : Nat → Nat} {np : Nat} {st sr : Nat → Nat} {sx tk : Nat → Nat → Nat} {rn sh sn : Nat → Nat} {yw nw : Nat} {yo ce wo : Nat → Nat} {po ne : Nat → Option Nat} {cs : Nat → Nat} {sv : Nat → Nat → Nat} {mk : Nat} {sp rs : Nat → Int} {bg dp : Nat} (i : Nat) (hi : i < np) (hnp : np ≤ 12) (hY : nY ≤ 12) (hst : ∀ i, st i ≤ 4) (hsr : ∀ i, sr i < 4) (hsi : ∀ i, i < np → sr i < st i) (hM : ∀ i, i < np → ∀ a, a < st i → sumN (fun j => sx i (a * 4 + j)) (st i) = 16) (hrn : ∀ i, rn i < 4096) (hx : ∀ i j, sx i j ≤ 16) (ht : ∀ i j, tk i j ≤ 1000) (hix : ∀ y, ix y ≤ 2000) : mWv l y_CY_takeCareFromReserves (w_CY_takeCareFromReserves :: gt) rm_CY_takeCareFromReserves V (wC V ad r1 r2 r3 nY ix bu np st sr sx tk rn sh sn yw nw yo ce wo po ne cs sv mk sp rs bg dp) [.ref (ad 0), .int (nI i)] (wC V ad r1 r2 r3 nY ix bu np st sr sx tk rn ((eY (sr i) (sx i) (st i) (rn i) sh sn yw nY).1) ((eY (sr i) (sx i) (st i) (rn i) sh sn yw nY).2.2) ((eY (sr i) (sx i) (st i) (rn i) sh sn yw nY).2.1) nw yo ce wo po ne cs sv mk sp (fun j => if j < nY then rs j - ((cY ix st sr sx tk rn i j : Nat) : Int) else rs j) bg dp) 0 0 := by
  intro sz
  refine gMet (V := V) (As := [.ref (ad 0), .int (nI i)]) (cc := c_CY_takeCareFromReserves) (maxL := 3) (ret := none) (by decide) rfl (Nat.le_of_ble_eq_true rfl) (fun a U h => ⟨h.1, h.2.2.2.1⟩) ?_
  intro p e s m below meth c E hr hlk hnm hv
  refine g_toW (sz := sz) (w := wC V ad r1 r2 r3 nY ix bu np st sr sx tk rn sh sn yw nw yo ce wo po ne cs sv mk sp rs bg dp) hv.2.2.1 hv.2.2.2.2 ?_
  have hA0 : ∀ q : Nat, s.heap.size ≤ q → va_A (wC V ad r1 r2 r3 nY ix bu np st sr sx tk rn sh sn yw nw yo ce wo po ne cs sv mk sp rs bg dp) sz q := fun q h => Or.inr (by rw [← hv.2.1]; exact h)
  have q1 := hst i
  have q2 := hsr i
  have q3 := hrn i
  refine g_iconst (v := nI 0) E d_CY_takeCareFromReserves_0 (by decide) ?_
  refine g_istore_n (lv' := [(2, .int (nI 0)), (0, .ref (ad 0)), (1, .int (nI i))]) E d_CY_takeCareFromReserves_1 rfl (by decide) rfl ?_
  refine g_lv [0, 1, 2] rfl ?_
  refine g_ws (ws' := wC V ad r1 r2 r3 nY ix bu np st sr sx tk rn sh sn yw nw yo ce wo po ne cs sv mk sp (fun j => if j < 0 then rs j - ((cY ix st sr sx tk rn i j : Nat) : Int) else rs j) bg dp) (by simp only [Nat.not_lt_zero, if_false]) ?_
  refine gloop (α := Nat) (fun a_ => gW V _ _ (wC V ad r1 r2 r3 nY ix bu np st sr sx tk rn ((eY (sr i) (sx i) (st i) (rn i) sh sn yw a_).1) ((eY (sr i) (sx i) (st i) (rn i) sh sn yw a_).2.2) ((eY (sr i) (sx i) (st i) (rn i) sh sn yw a_).2.1) nw yo ce wo po ne cs sv mk sp (fun j => if j < a_ then rs j - ((cY ix st sr sx tk rn i j : Nat) : Int) else rs j) bg dp)) (fun a_ => [(2, .int (nI a_)), (0, .ref (ad 0)), (1, .int (nI i))]) (fun a_ => a_ ≤ nY) (fun a_ => nY - a_) (0) (Nat.zero_le _) ?_
  rintro y hI_2 ih_2
  try dsimp only at hI_2 ih_2 ⊢
  refine g_iload_n E d_CY_takeCareFromReserves_2 rfl 0 rfl ?_
  refine g_aload_n E d_CY_takeCareFromReserves_3 rfl 1 rfl ?_
  refine gf_CY_21 E gO_w 0 rfl rfl d_CY_takeCareFromReserves_4 ?_
  refine gf_CY_170 E gO_w 1 rfl rfl d_CY_takeCareFromReserves_7 ?_
  refine g_ncmp_ge E 54 d_CY_takeCareFromReserves_10 (by decide) (by omega) (by omega) (fun h1 => ?_) (fun h1 => ?_)
  · refine g_ws (ws' := wC V ad r1 r2 r3 nY ix bu np st sr sx tk rn ((eY (sr i) (sx i) (st i) (rn i) sh sn yw nY).1) ((eY (sr i) (sx i) (st i) (rn i) sh sn yw nY).2.2) ((eY (sr i) (sx i) (st i) (rn i) sh sn yw nY).2.1) nw yo ce wo po ne cs sv mk sp (fun j => if j < nY then rs j - ((cY ix st sr sx tk rn i j : Nat) : Int) else rs j) bg dp) (by rw [show y = nY by omega]) ?_
    exact g_vret E hr hlk d_CY_takeCareFromReserves_54 (gq_wv (w1 := fun _ => wC V ad r1 r2 r3 nY ix bu np st sr sx tk rn ((eY (sr i) (sx i) (st i) (rn i) sh sn yw nY).1) ((eY (sr i) (sx i) (st i) (rn i) sh sn yw nY).2.2) ((eY (sr i) (sx i) (st i) (rn i) sh sn yw nY).2.1) nw yo ce wo po ne cs sv mk sp (fun j => if j < nY then rs j - ((cY ix st sr sx tk rn i j : Nat) : Int) else rs j) bg dp) () trivial)
  · refine g_aload_n E d_CY_takeCareFromReserves_13 rfl 1 rfl ?_
    refine gf_CY_30 E gO_w 0 rfl rfl d_CY_takeCareFromReserves_14 ?_
    refine g_iload_n E d_CY_takeCareFromReserves_17 rfl 2 rfl ?_
    refine g_iload_n E d_CY_takeCareFromReserves_18 rfl 0 rfl ?_
    refine gwVv (As := [.int (nI i), .int (nI y)]) (rest := []) (w' := wC V ad r1 r2 r3 nY ix bu np st sr sx tk rn (if enB (rn i) y then beg (sr i) else wrV ((eY (sr i) (sx i) (st i) (rn i) sh sn yw y).1) (sx i) (st i) ((eY (sr i) (sx i) (st i) (rn i) sh sn yw y).1)) (if enB (rn i) y then (eY (sr i) (sx i) (st i) (rn i) sh sn yw y).2.2 else wrV ((eY (sr i) (sx i) (st i) (rn i) sh sn yw y).1) (sx i) (st i) ((eY (sr i) (sx i) (st i) (rn i) sh sn yw y).2.2)) (if enB (rn i) y then 0 else ((eY (sr i) (sx i) (st i) (rn i) sh sn yw y).2.1) + 1) nw yo ce wo po ne cs sv mk sp (fun j => if j < y then rs j - ((cY ix st sr sx tk rn i j : Nat) : Int) else rs j) bg dp) (mc := 0) (ms := 0) E hA0 4 rfl rfl (C_Pa_enter l i y (by omega) (by omega) (by omega) (by omega) (by omega) hx) (cs_CY_213 E rfl rfl ⟨Nat.le_of_ble_eq_true rfl, Nat.le_of_ble_eq_true rfl⟩) rfl rfl (Nat.le_of_ble_eq_true rfl) ⟨Nat.zero_le _, Nat.zero_le _⟩ d_CY_takeCareFromReserves_19 ?_
    refine g_ws (ws' := wC V ad r1 r2 r3 nY ix bu np st sr sx tk rn ((eY (sr i) (sx i) (st i) (rn i) sh sn yw (y + 1)).1) ((eY (sr i) (sx i) (st i) (rn i) sh sn yw (y + 1)).2.2) ((eY (sr i) (sx i) (st i) (rn i) sh sn yw (y + 1)).2.1) nw yo ce wo po ne cs sv mk sp (fun j => if j < y then rs j - ((cY ix st sr sx tk rn i j : Nat) : Int) else rs j) bg dp) rfl ?_
    refine g_aload_n E d_CY_takeCareFromReserves_22 rfl 1 rfl ?_
    refine gf_CY_43 E gO_w 0 rfl rfl d_CY_takeCareFromReserves_23 ?_
    refine g_iload_n E d_CY_takeCareFromReserves_26 rfl 0 rfl ?_
    refine g_dup2 E d_CY_takeCareFromReserves_27 rfl rfl ?_
    refine g_ldJ E gO_w 21 rfl (by omega) (by decide) d_CY_takeCareFromReserves_28 ?_
    refine g_topl (show lI _ = lI (rs y) from by rw [if_neg (Nat.lt_irrefl y)]) ?_
    refine g_aload_n E d_CY_takeCareFromReserves_29 rfl 1 rfl ?_
    refine gf_CY_21 E gO_w 0 rfl rfl d_CY_takeCareFromReserves_30 ?_
    refine g_iload_n E d_CY_takeCareFromReserves_33 rfl 0 rfl ?_
    refine g_aload_n E d_CY_takeCareFromReserves_34 rfl 1 rfl ?_
    refine gf_CY_30 E gO_w 0 rfl rfl d_CY_takeCareFromReserves_35 ?_
    refine g_iload_n E d_CY_takeCareFromReserves_38 rfl 2 rfl ?_
    refine gpVi (As := [.int (nI i)]) (rest := [.int (nI y), .ref (ad 1), .long (lI (rs y)), .int (nI y), .ref (ad 21)]) E gO_w 4 rfl rfl ((C_Pa_careTaken l i (by omega) (hst _) ht (by rw [eY_sh]; exact tk_lt (hsi _ hi) (hM _ hi) (by omega) (ht _)) (by rw [eY_yw]; exact (shC_sum (hsi _ hi) (hM _ hi) (by omega)).2))) (cs_CY_101 E rfl rfl ⟨Nat.le_of_ble_eq_true rfl, Nat.le_of_ble_eq_true rfl⟩) rfl rfl (Nat.le_of_ble_eq_true rfl) ⟨Nat.zero_le _, Nat.zero_le _⟩ d_CY_takeCareFromReserves_39 ?_
    refine g_topi (show nI _ = nI (tkC (sr i) (sx i) (st i) (rn i) (tk i) y) from congrArg nI (by unfold tkC; rw [← eY_sh (sh := sh) (sn := sn) (yw := yw), ← eY_yw (sh := sh) (sn := sn) (yw := yw)])) ?_
    have q4 := tkC_le (rn := rn i) (hsi i hi) (hM i hi) (show y < 12 by omega) (ht i)
    have q5 := hix y
    refine gpVi (As := [.int (nI y), .int (nI (tkC (sr i) (sx i) (st i) (rn i) (tk i) y))]) (rest := [.long (lI (rs y)), .int (nI y), .ref (ad 21)]) E gO_w 1 rfl rfl (C_Ye_costIn l y (tkC (sr i) (sx i) (st i) (rn i) (tk i) y) (by omega) (by omega) (by omega)) (cs_CY_105 E rfl rfl ⟨Nat.le_of_ble_eq_true rfl, Nat.le_of_ble_eq_true rfl⟩) rfl rfl (Nat.le_of_ble_eq_true rfl) ⟨Nat.zero_le _, Nat.zero_le _⟩ d_CY_takeCareFromReserves_42 ?_
    have q6 := Nat.mul_le_mul q4 q5
    refine g_i2l E d_CY_takeCareFromReserves_45 ?_
    refine g_topl (nI_l (by omega)) ?_
    refine g_lsub E d_CY_takeCareFromReserves_46 ?_
    refine g_topl (by rw [lN_lI, lI_sub]) ?_
    refine g_stJ (ws' := wC V ad r1 r2 r3 nY ix bu np st sr sx tk rn ((eY (sr i) (sx i) (st i) (rn i) sh sn yw (y + 1)).1) ((eY (sr i) (sx i) (st i) (rn i) sh sn yw (y + 1)).2.2) ((eY (sr i) (sx i) (st i) (rn i) sh sn yw (y + 1)).2.1) nw yo ce wo po ne cs sv mk sp (va_up (fun j => if j < y then rs j - ((cY ix st sr sx tk rn i j : Nat) : Int) else rs j) y (rs y - ((cY ix st sr sx tk rn i y : Nat) : Int))) bg dp) E 21 rfl (by omega) (by decide) rfl d_CY_takeCareFromReserves_47 ?_
    refine g_iinc (lv' := [(2, .int (nI (y + 1))), (0, .ref (ad 0)), (1, .int (nI i))]) E d_CY_takeCareFromReserves_48 0 rfl (nI_inc _) (by decide) rfl ?_
    refine g_goto E 2 d_CY_takeCareFromReserves_51 (by decide) ?_
    refine g_lv [0, 1, 2] rfl ?_
    refine g_ws (ws' := wC V ad r1 r2 r3 nY ix bu np st sr sx tk rn ((eY (sr i) (sx i) (st i) (rn i) sh sn yw (y + 1)).1) ((eY (sr i) (sx i) (st i) (rn i) sh sn yw (y + 1)).2.2) ((eY (sr i) (sx i) (st i) (rn i) sh sn yw (y + 1)).2.1) nw yo ce wo po ne cs sv mk sp (fun j => if j < y + 1 then rs j - ((cY ix st sr sx tk rn i j : Nat) : Int) else rs j) bg dp) (by rw [ifuZ (F := fun j => rs j - ((cY ix st sr sx tk rn i j : Nat) : Int)) (G := rs)]) ?_
    exact ih_2 (y + 1) (by (try dsimp only); omega) (by (try dsimp only); omega)

theorem sumZ_s {f : Nat → Int} {n : Nat} : sumZ f (n + 1) = sumZ f n + f n := rfl
theorem dY_s {ix st sr : Nat → Nat} {sx tk : Nat → Nat → Nat} {rn : Nat → Nat} {c : Nat → Int} {dp p y : Nat} : dY ix st sr sx tk rn c dp p y - ((cY ix st sr sx tk rn p y : Nat) : Int) = dY ix st sr sx tk rn c dp (p + 1) y := by
  unfold dY; rw [sumZ_s]; omega

set_option maxHeartbeats 4000000 in
set_option maxRecDepth 100000 in
theorem C_CY_reckonReserves (l : Launch) {V : gV} {ad r1 r2 r3 : Nat → Nat} {nY : Nat} {ix bu : Nat → Nat} {np : Nat} {st sr : Nat → Nat} {sx tk : Nat → Nat → Nat} {rn sh sn : Nat → Nat} {yw nw : Nat} {yo ce wo : Nat → Nat} {po ne : Nat → Option Nat} {cs : Nat → Nat} {sv : Nat → Nat → Nat} {mk : Nat} {sp rs : Nat → Int} {bg dp : Nat} (hnp : np ≤ 12) (hY : nY ≤ 12) (hnw : nw ≤ 10) (hmk : mk < 1024) (hyY : ∀ w, yo w < nY) (hyo : ∀ w, yo w < 12) (hce : ∀ w, ce w ≤ 1000000) (hsv : ∀ a b, sv a b ≤ 1000000) (hdp : dp ≤ 1000000000) (hbg : bg ≤ 1000000000) (hst : ∀ i, st i ≤ 4) (hsr : ∀ i, sr i < 4) (hsi : ∀ i, i < np → sr i < st i) (hM : ∀ i, i < np → ∀ a, a < st i → sumN (fun j => sx i (a * 4 + j)) (st i) = 16) (hrn : ∀ i, rn i < 4096) (hx : ∀ i j, sx i j ≤ 16) (ht : ∀ i j, tk i j ≤ 1000) (hix : ∀ y, ix y ≤ 2000) : mWv l y_CY_reckonReserves (w_CY_reckonReserves :: gt) rm_CY_reckonReserves V (wC V ad r1 r2 r3 nY ix bu np st sr sx tk rn sh sn yw nw yo ce wo po ne cs sv mk sp rs bg dp) [.ref (ad 0)] (wC V ad r1 r2 r3 nY ix bu np st sr sx tk rn ((tE nY st sr sx rn sh sn yw np).1) ((tE nY st sr sx rn sh sn yw np).2.2) ((tE nY st sr sx rn sh sn yw np).2.1) nw yo ce wo po ne cs sv mk (cS ix yo ce sv nw mk) (fun j => if j < nY then rV ix st sr sx tk rn (cS ix yo ce sv nw mk) bg dp np j else rs j) bg dp) 0 0 := by
  intro sz
  refine gMet (V := V) (As := [.ref (ad 0)]) (cc := c_CY_reckonReserves) (maxL := 4) (ret := none) (by decide) rfl (Nat.le_of_ble_eq_true rfl) (fun a U h => ⟨h.1, h.2.2.2.1⟩) ?_
  intro p e s m below meth c E hr hlk hnm hv
  refine g_toW (sz := sz) (w := wC V ad r1 r2 r3 nY ix bu np st sr sx tk rn sh sn yw nw yo ce wo po ne cs sv mk sp rs bg dp) hv.2.2.1 hv.2.2.2.2 ?_
  have hA0 : ∀ q : Nat, s.heap.size ≤ q → va_A (wC V ad r1 r2 r3 nY ix bu np st sr sx tk rn sh sn yw nw yo ce wo po ne cs sv mk sp rs bg dp) sz q := fun q h => Or.inr (by rw [← hv.2.1]; exact h)
  refine g_aload_n E d_CY_reckonReserves_0 rfl 0 rfl ?_
  refine gf_CY_39 E gO_w 0 rfl rfl d_CY_reckonReserves_1 ?_
  refine g_aload_n E d_CY_reckonReserves_4 rfl 0 rfl ?_
  refine gf_CY_39 E gO_w 0 rfl rfl d_CY_reckonReserves_5 ?_
  refine gf_CY_139 E gO_w 12 rfl rfl d_CY_reckonReserves_8 ?_
  refine gwVv (As := [.int (nI mk)]) (rest := []) (w' := wC V ad r1 r2 r3 nY ix bu np st sr sx tk rn sh sn yw nw yo ce wo po ne cs sv mk (cS ix yo ce sv nw mk) rs bg dp) (mc := 0) (ms := 0) E hA0 12 rfl rfl (C_Wo_spend l mk (by omega) (by omega) (by omega) hyY hyo hix hce hsv) (cs_CY_145 E rfl rfl ⟨Nat.le_of_ble_eq_true rfl, Nat.le_of_ble_eq_true rfl⟩) rfl rfl (Nat.le_of_ble_eq_true rfl) ⟨Nat.zero_le _, Nat.zero_le _⟩ d_CY_reckonReserves_11 ?_
  refine g_iconst (v := nI 0) E d_CY_reckonReserves_14 (by decide) ?_
  refine g_istore_n (lv' := [(1, .int (nI 0)), (0, .ref (ad 0))]) E d_CY_reckonReserves_15 rfl (by decide) rfl ?_
  refine g_lv [0, 1] rfl ?_
  refine g_ws (ws' := wC V ad r1 r2 r3 nY ix bu np st sr sx tk rn sh sn yw nw yo ce wo po ne cs sv mk (cS ix yo ce sv nw mk) (fun j => if j < 0 then (dp : Int) - cS ix yo ce sv nw mk j else rs j) bg dp) (by simp only [Nat.not_lt_zero, if_false]) ?_
  refine gloop (α := Nat) (fun a_ => gW V _ _ (wC V ad r1 r2 r3 nY ix bu np st sr sx tk rn sh sn yw nw yo ce wo po ne cs sv mk (cS ix yo ce sv nw mk) (fun j => if j < a_ then (dp : Int) - cS ix yo ce sv nw mk j else rs j) bg dp)) (fun a_ => [(1, .int (nI a_)), (0, .ref (ad 0))]) (fun a_ => a_ ≤ nY) (fun a_ => nY - a_) (0) (Nat.zero_le _) ?_
  rintro y hI_16 ih_16
  try dsimp only at hI_16 ih_16 ⊢
  refine g_iload_n E d_CY_reckonReserves_16 rfl 0 rfl ?_
  refine g_aload_n E d_CY_reckonReserves_17 rfl 1 rfl ?_
  refine gf_CY_21 E gO_w 0 rfl rfl d_CY_reckonReserves_18 ?_
  refine gf_CY_170 E gO_w 1 rfl rfl d_CY_reckonReserves_21 ?_
  refine g_ncmp_ge E 54 d_CY_reckonReserves_24 (by decide) (by omega) (by omega) (fun h1 => ?_) (fun h1 => ?_)
  · refine g_iconst (v := nI 0) E d_CY_reckonReserves_54 (by decide) ?_
    refine g_istore_n (lv' := [(1, .int (nI 0)), (0, .ref (ad 0))]) E d_CY_reckonReserves_55 rfl (by decide) rfl ?_
    refine g_lv [0, 1] rfl ?_
    refine g_ws (ws' := wC V ad r1 r2 r3 nY ix bu np st sr sx tk rn sh sn yw nw yo ce wo po ne cs sv mk (cS ix yo ce sv nw mk) (fun j => if j < nY then dY ix st sr sx tk rn (cS ix yo ce sv nw mk) dp 0 j else rs j) bg dp) (by rw [show y = nY by omega]; congr 1; funext j; simp [dY, sumZ]) ?_
    refine gloop (α := Nat) (fun a_ => gW V _ _ (wC V ad r1 r2 r3 nY ix bu np st sr sx tk rn ((tE nY st sr sx rn sh sn yw a_).1) ((tE nY st sr sx rn sh sn yw a_).2.2) ((tE nY st sr sx rn sh sn yw a_).2.1) nw yo ce wo po ne cs sv mk (cS ix yo ce sv nw mk) (fun j => if j < nY then dY ix st sr sx tk rn (cS ix yo ce sv nw mk) dp a_ j else rs j) bg dp)) (fun a_ => [(1, .int (nI a_)), (0, .ref (ad 0))]) (fun a_ => a_ ≤ np) (fun a_ => np - a_) (0) (Nat.zero_le _) ?_
    rintro i hI_56 ih_56
    try dsimp only at hI_56 ih_56 ⊢
    refine g_iload_n E d_CY_reckonReserves_56 rfl 0 rfl ?_
    refine g_aload_n E d_CY_reckonReserves_57 rfl 1 rfl ?_
    refine gf_CY_30 E gO_w 0 rfl rfl d_CY_reckonReserves_58 ?_
    refine gf_CY_67 E gO_w 4 rfl rfl d_CY_reckonReserves_61 ?_
    refine g_ncmp_ge E 78 d_CY_reckonReserves_64 (by decide) (by omega) (by omega) (fun h2 => ?_) (fun h2 => ?_)
    · refine g_aload_n E d_CY_reckonReserves_78 rfl 1 rfl ?_
      refine gf_CY_161 E gO_w 0 rfl rfl d_CY_reckonReserves_79 ?_
      refine g_i2l E d_CY_reckonReserves_82 ?_
      refine g_topl ((nI_l (by omega)).trans (lN_lI _)) ?_
      refine g_lstore_n (lv' := [(1, .long (lI (bg : Int))), (0, .ref (ad 0))]) E d_CY_reckonReserves_83 rfl (by decide) rfl ?_
      refine g_iconst (v := nI 0) E d_CY_reckonReserves_84 (by decide) ?_
      refine g_istore_n (lv' := [(3, .int (nI 0)), (1, .long (lI (bg : Int))), (0, .ref (ad 0))]) E d_CY_reckonReserves_85 rfl (by decide) rfl ?_
      refine g_lv [0, 1, 2] rfl ?_
      refine g_ws (ws' := wC V ad r1 r2 r3 nY ix bu np st sr sx tk rn ((tE nY st sr sx rn sh sn yw np).1) ((tE nY st sr sx rn sh sn yw np).2.2) ((tE nY st sr sx rn sh sn yw np).2.1) nw yo ce wo po ne cs sv mk (cS ix yo ce sv nw mk) (fun j => if j < 0 then (bg : Int) + sumZ (dY ix st sr sx tk rn (cS ix yo ce sv nw mk) dp np) (j + 1) else if j < nY then dY ix st sr sx tk rn (cS ix yo ce sv nw mk) dp np j else rs j) bg dp) (by rw [show i = np by omega]; simp only [Nat.not_lt_zero, if_false]) ?_
      refine gloop (α := Nat × Int) (fun a_ => gW V _ _ (wC V ad r1 r2 r3 nY ix bu np st sr sx tk rn ((tE nY st sr sx rn sh sn yw np).1) ((tE nY st sr sx rn sh sn yw np).2.2) ((tE nY st sr sx rn sh sn yw np).2.1) nw yo ce wo po ne cs sv mk (cS ix yo ce sv nw mk) (fun j => if j < a_.1 then (bg : Int) + sumZ (dY ix st sr sx tk rn (cS ix yo ce sv nw mk) dp np) (j + 1) else if j < nY then dY ix st sr sx tk rn (cS ix yo ce sv nw mk) dp np j else rs j) bg dp)) (fun a_ => [(3, .int (nI a_.1)), (1, .long (lI a_.2)), (0, .ref (ad 0))]) (fun a_ => a_.1 ≤ nY ∧ a_.2 = (bg : Int) + sumZ (dY ix st sr sx tk rn (cS ix yo ce sv nw mk) dp np) a_.1) (fun a_ => nY - a_.1) (0, (bg : Int)) (⟨Nat.zero_le _, by simp [sumZ]⟩) ?_
      rintro ⟨y, z⟩ hI_86 ih_86
      try dsimp only at hI_86 ih_86 ⊢
      refine g_iload_n E d_CY_reckonReserves_86 rfl 0 rfl ?_
      refine g_aload_n E d_CY_reckonReserves_87 rfl 2 rfl ?_
      refine gf_CY_21 E gO_w 0 rfl rfl d_CY_reckonReserves_88 ?_
      refine gf_CY_170 E gO_w 1 rfl rfl d_CY_reckonReserves_91 ?_
      refine g_ncmp_ge E 119 d_CY_reckonReserves_94 (by decide) (by omega) (by omega) (fun h3 => ?_) (fun h3 => ?_)
      · refine g_ws (ws' := wC V ad r1 r2 r3 nY ix bu np st sr sx tk rn ((tE nY st sr sx rn sh sn yw np).1) ((tE nY st sr sx rn sh sn yw np).2.2) ((tE nY st sr sx rn sh sn yw np).2.1) nw yo ce wo po ne cs sv mk (cS ix yo ce sv nw mk) (fun j => if j < nY then rV ix st sr sx tk rn (cS ix yo ce sv nw mk) bg dp np j else rs j) bg dp) (by rw [show y = nY by omega]; congr 1; funext j; by_cases hj : j < nY <;> simp [hj, rV]) ?_
        exact g_vret E hr hlk d_CY_reckonReserves_119 (gq_wv (w1 := fun _ => wC V ad r1 r2 r3 nY ix bu np st sr sx tk rn ((tE nY st sr sx rn sh sn yw np).1) ((tE nY st sr sx rn sh sn yw np).2.2) ((tE nY st sr sx rn sh sn yw np).2.1) nw yo ce wo po ne cs sv mk (cS ix yo ce sv nw mk) (fun j => if j < nY then rV ix st sr sx tk rn (cS ix yo ce sv nw mk) bg dp np j else rs j) bg dp) () trivial)
      · refine g_lload_n E d_CY_reckonReserves_97 rfl 1 rfl ?_
        refine g_aload_n E d_CY_reckonReserves_98 rfl 2 rfl ?_
        refine gf_CY_43 E gO_w 0 rfl rfl d_CY_reckonReserves_99 ?_
        refine g_iload_n E d_CY_reckonReserves_102 rfl 0 rfl ?_
        refine g_ldJ E gO_w 21 rfl (by omega) (by decide) d_CY_reckonReserves_103 ?_
        refine g_topl (show lI _ = lI (dY ix st sr sx tk rn (cS ix yo ce sv nw mk) dp np y) from by rw [if_neg (Nat.lt_irrefl y), if_pos (by omega)]) ?_
        refine g_ladd E d_CY_reckonReserves_104 ?_
        refine g_topl (lI_add _ _) ?_
        refine g_lstore_n (lv' := [(1, .long (lI (z + (dY ix st sr sx tk rn (cS ix yo ce sv nw mk) dp np y)))), (3, .int (nI y)), (0, .ref (ad 0))]) E d_CY_reckonReserves_105 rfl (by decide) rfl ?_
        refine g_aload_n E d_CY_reckonReserves_106 rfl 2 rfl ?_
        refine gf_CY_43 E gO_w 0 rfl rfl d_CY_reckonReserves_107 ?_
        refine g_iload_n E d_CY_reckonReserves_110 rfl 1 rfl ?_
        refine g_lload_n E d_CY_reckonReserves_111 rfl 0 rfl ?_
        refine g_stJ (ws' := wC V ad r1 r2 r3 nY ix bu np st sr sx tk rn ((tE nY st sr sx rn sh sn yw np).1) ((tE nY st sr sx rn sh sn yw np).2.2) ((tE nY st sr sx rn sh sn yw np).2.1) nw yo ce wo po ne cs sv mk (cS ix yo ce sv nw mk) (va_up (fun j => if j < y then (bg : Int) + sumZ (dY ix st sr sx tk rn (cS ix yo ce sv nw mk) dp np) (j + 1) else if j < nY then dY ix st sr sx tk rn (cS ix yo ce sv nw mk) dp np j else rs j) y (z + (dY ix st sr sx tk rn (cS ix yo ce sv nw mk) dp np y))) bg dp) E 21 rfl (by omega) (by decide) rfl d_CY_reckonReserves_112 ?_
        refine g_iinc (lv' := [(3, .int (nI (y + 1))), (1, .long (lI (z + (dY ix st sr sx tk rn (cS ix yo ce sv nw mk) dp np y)))), (0, .ref (ad 0))]) E d_CY_reckonReserves_113 1 rfl (nI_inc _) (by decide) rfl ?_
        refine g_goto E 86 d_CY_reckonReserves_116 (by decide) ?_
        refine g_lv [0, 1, 2] rfl ?_
        refine g_ws (ws' := wC V ad r1 r2 r3 nY ix bu np st sr sx tk rn ((tE nY st sr sx rn sh sn yw np).1) ((tE nY st sr sx rn sh sn yw np).2.2) ((tE nY st sr sx rn sh sn yw np).2.1) nw yo ce wo po ne cs sv mk (cS ix yo ce sv nw mk) (fun j => if j < y + 1 then (bg : Int) + sumZ (dY ix st sr sx tk rn (cS ix yo ce sv nw mk) dp np) (j + 1) else if j < nY then dY ix st sr sx tk rn (cS ix yo ce sv nw mk) dp np j else rs j) bg dp) (by rw [hI_86.2, Int.add_assoc, ← sumZ_s]; exact congrArg (fun r => wC V ad r1 r2 r3 nY ix bu np st sr sx tk rn ((tE nY st sr sx rn sh sn yw np).1) ((tE nY st sr sx rn sh sn yw np).2.2) ((tE nY st sr sx rn sh sn yw np).2.1) nw yo ce wo po ne cs sv mk (cS ix yo ce sv nw mk) r bg dp) (ifuZ (F := fun j => (bg : Int) + sumZ (dY ix st sr sx tk rn (cS ix yo ce sv nw mk) dp np) (j + 1)) (G := fun j => if j < nY then dY ix st sr sx tk rn (cS ix yo ce sv nw mk) dp np j else rs j))) ?_
        exact ih_86 (y + 1, z + (dY ix st sr sx tk rn (cS ix yo ce sv nw mk) dp np y)) (⟨by (try dsimp only); omega, by (try dsimp only); rw [hI_86.2, sumZ_s]; omega⟩) (by (try dsimp only); omega)
    · refine g_aload_n E d_CY_reckonReserves_67 rfl 1 rfl ?_
      refine g_iload_n E d_CY_reckonReserves_68 rfl 0 rfl ?_
      refine gwVv (As := [.int (nI i)]) (rest := []) (w' := wC V ad r1 r2 r3 nY ix bu np st sr sx tk rn ((eY (sr i) (sx i) (st i) (rn i) ((tE nY st sr sx rn sh sn yw i).1) ((tE nY st sr sx rn sh sn yw i).2.2) ((tE nY st sr sx rn sh sn yw i).2.1) nY).1) ((eY (sr i) (sx i) (st i) (rn i) ((tE nY st sr sx rn sh sn yw i).1) ((tE nY st sr sx rn sh sn yw i).2.2) ((tE nY st sr sx rn sh sn yw i).2.1) nY).2.2) ((eY (sr i) (sx i) (st i) (rn i) ((tE nY st sr sx rn sh sn yw i).1) ((tE nY st sr sx rn sh sn yw i).2.2) ((tE nY st sr sx rn sh sn yw i).2.1) nY).2.1) nw yo ce wo po ne cs sv mk (cS ix yo ce sv nw mk) (fun j => if j < nY then (if j < nY then dY ix st sr sx tk rn (cS ix yo ce sv nw mk) dp i j else rs j) - ((cY ix st sr sx tk rn i j : Nat) : Int) else (if j < nY then dY ix st sr sx tk rn (cS ix yo ce sv nw mk) dp i j else rs j)) bg dp) (mc := 0) (ms := 0) E hA0 0 rfl rfl (C_CY_takeCareFromReserves l i (by omega) hnp hY hst hsr hsi hM hrn hx ht hix) (cs_CY_210 E rfl rfl ⟨Nat.le_of_ble_eq_true rfl, Nat.le_of_ble_eq_true rfl⟩) rfl rfl (Nat.le_of_ble_eq_true rfl) ⟨Nat.zero_le _, Nat.zero_le _⟩ d_CY_reckonReserves_69 ?_
      refine g_iinc (lv' := [(1, .int (nI (i + 1))), (0, .ref (ad 0))]) E d_CY_reckonReserves_72 0 rfl (nI_inc _) (by decide) rfl ?_
      refine g_goto E 56 d_CY_reckonReserves_75 (by decide) ?_
      refine g_lv [0, 1] rfl ?_
      refine g_ws (ws' := wC V ad r1 r2 r3 nY ix bu np st sr sx tk rn ((tE nY st sr sx rn sh sn yw (i + 1)).1) ((tE nY st sr sx rn sh sn yw (i + 1)).2.2) ((tE nY st sr sx rn sh sn yw (i + 1)).2.1) nw yo ce wo po ne cs sv mk (cS ix yo ce sv nw mk) (fun j => if j < nY then dY ix st sr sx tk rn (cS ix yo ce sv nw mk) dp (i + 1) j else rs j) bg dp) (by congr 1; funext j; by_cases hj : j < nY <;> simp only [hj, if_true, if_false, dY_s]) ?_
      exact ih_56 (i + 1) (by (try dsimp only); omega) (by (try dsimp only); omega)
  · refine g_aload_n E d_CY_reckonReserves_27 rfl 1 rfl ?_
    refine gf_CY_43 E gO_w 0 rfl rfl d_CY_reckonReserves_28 ?_
    refine g_iload_n E d_CY_reckonReserves_31 rfl 0 rfl ?_
    refine g_aload_n E d_CY_reckonReserves_32 rfl 1 rfl ?_
    refine gf_CY_164 E gO_w 0 rfl rfl d_CY_reckonReserves_33 ?_
    refine g_aload_n E d_CY_reckonReserves_36 rfl 1 rfl ?_
    refine gf_CY_39 E gO_w 0 rfl rfl d_CY_reckonReserves_37 ?_
    refine gf_CY_148 E gO_w 12 rfl rfl d_CY_reckonReserves_40 ?_
    refine g_iload_n E d_CY_reckonReserves_43 rfl 0 rfl ?_
    refine g_ldI E gO_w 20 rfl (by omega) (by decide) d_CY_reckonReserves_44 ?_
    have q1 := cS_abs (yo := yo) (ce := ce) (S := mk) (y := y) hnw hix hce hsv
    refine g_isub E d_CY_reckonReserves_45 ?_
    refine g_topi (by rw [nI_iI, iI_sub]) ?_
    refine g_i2l E d_CY_reckonReserves_46 ?_
    refine g_topl (iI_l (by omega) (by omega)) ?_
    refine g_stJ (ws' := wC V ad r1 r2 r3 nY ix bu np st sr sx tk rn sh sn yw nw yo ce wo po ne cs sv mk (cS ix yo ce sv nw mk) (va_up (fun j => if j < y then (dp : Int) - cS ix yo ce sv nw mk j else rs j) y ((dp : Int) - cS ix yo ce sv nw mk y)) bg dp) E 21 rfl (by omega) (by decide) rfl d_CY_reckonReserves_47 ?_
    refine g_iinc (lv' := [(1, .int (nI (y + 1))), (0, .ref (ad 0))]) E d_CY_reckonReserves_48 0 rfl (nI_inc _) (by decide) rfl ?_
    refine g_goto E 16 d_CY_reckonReserves_51 (by decide) ?_
    refine g_lv [0, 1] rfl ?_
    refine g_ws (ws' := wC V ad r1 r2 r3 nY ix bu np st sr sx tk rn sh sn yw nw yo ce wo po ne cs sv mk (cS ix yo ce sv nw mk) (fun j => if j < y + 1 then (dp : Int) - cS ix yo ce sv nw mk j else rs j) bg dp) (by rw [ifuZ (F := fun j => (dp : Int) - cS ix yo ce sv nw mk j) (G := rs)]) ?_
    exact ih_16 (y + 1) (by (try dsimp only); omega) (by (try dsimp only); omega)
end
section
/-! What the throwing of an exception asks of the tables and of Throwable's two statics (XK), how it is carried, and the two methods that throw. -/
def nIAE : String := "java/lang/IllegalArgumentException"
def nISE : String := "java/lang/IllegalStateException"
def nUp : List String := ["java/lang/RuntimeException", "java/lang/Exception"]
/-- the two statics of Throwable that the start alone speaks of -/
def xS1 : Cond := .isRef (.static "java/lang/Throwable" "UNASSIGNED_STACK" "[Ljava/lang/StackTraceElement;")
def xS2 : Cond := .isRef (.static "java/lang/Throwable" "SUPPRESSED_SENTINEL" "Ljava/util/List;")
def xL1 : Cond := .laysStatic "java/lang/Throwable" "UNASSIGNED_STACK" "[Ljava/lang/StackTraceElement;"
def xL2 : Cond := .laysStatic "java/lang/Throwable" "SUPPRESSED_SENTINEL" "Ljava/util/List;"
def xI : Cond := .initialized "java/lang/Throwable"
def xT1 : String := "out of bounds, or there is no such thing"
def xT2 : String := "there is no room for one more"
def xl : List Cond := Bundle.ownAtoms R_CY 187 nIAE nUp ++ Bundle.ownAtoms R_CY 194 nISE nUp ++ [.castable nIAE nIAE, .castable nISE nISE, .initialized nIAE, .initialized nISE]
set_option maxRecDepth 100000 in
theorem xA_1 : xl.all (fun a => decide (a ∈ xS1 :: xS2 :: lw_tbl)) = true := by decide +kernel
set_option maxRecDepth 100000 in
theorem xA_2 : xl.all (fun a => decide (a ∈ [xS1, xS2, xL1, xL2]) || (a.onTables && a.keepsFace)) = true := by decide +kernel
set_option maxRecDepth 100000 in
theorem xA_3 : decide (xL1 ∈ xl) && decide (xL2 ∈ xl) && decide (xS1 ∈ xl) && decide (xS2 ∈ xl) = true := by decide +kernel
set_option maxRecDepth 100000 in
theorem xA_4 : decide (Cond.stringRef R_CY 185 xT1 ∈ lw_tbl) && decide (Cond.stringRef R_CY 192 xT2 ∈ lw_tbl) = true := by decide +kernel
theorem xmT {a : Cond} (h1 : a.onTables = true) (h2 : a.keepsFace = true) {A A' : Array Value} {s U : State} (hW : s.WarmedH U.vm) (h : a.before A s = true) : a.before A' U = true := by
  have q := Cond.before_shiftedFace (args := A) (State.Shifted.of_warmed hW) a h2 h
  rw [Cond.onTables_vm (A' := A') (U' := U) U.vm a h1] at q
  exact q
theorem xmL {o n d : String} {A A' : Array Value} {s U : State} (hW : s.WarmedH U.vm) (hh : ∀ q : Nat, q < s.heap.size → U.heap[q]? = s.heap[q]?) (h : (Cond.laysStatic o n d).before A s = true) : (Cond.laysStatic o n d).before A' U = true := by
  obtain ⟨c, k, i, f, a, cell, h1, h2, h3, h4, h5, h6, h7, h8, h9⟩ := Cond.laysStatic_spec h
  obtain ⟨k', h2', he⟩ := State.fieldFound?_setVm hW.alike h2
  have h2'' : U.fieldFound? o n d = some (c, k', i, f) := by simpa only [State.fieldFound?, State.vm_setVm] using h2'
  have e1 : k'.statics = some a := by rw [he]; exact h4
  have e2 : k'.staticTypes[f.slot]? = some f.type := by rw [he]; exact h9
  have e3 : U.heap[a]? = some cell := by rw [hh a (Array.getElem?_eq_some_iff.mp h5).1]; exact h5
  have e4 : U.vm.findClass o = some c := by rw [hW.alike.findClass]; exact h1
  simp [Cond.before, Cond.holds, Cond.value, e4, h2'', e1, e3, h3, h6, h7, h8, e2]
theorem xmR {o n d : String} {A A' : Array Value} {s U : State} (hW : s.WarmedH U.vm) (hh : ∀ q : Nat, q < s.heap.size → U.heap[q]? = s.heap[q]?) (hl : (Cond.laysStatic o n d).before A s = true) (h : (Cond.isRef (.static o n d)).before A s = true) : (Cond.isRef (.static o n d)).before A' U = true := by
  obtain ⟨c, k, i, f, a, cell, h1, h2, h3, h4, h5, h6, h7, h8, h9⟩ := Cond.laysStatic_spec hl
  obtain ⟨k', h2', he⟩ := State.fieldFound?_setVm hW.alike h2
  have h2'' : U.fieldFound? o n d = some (c, k', i, f) := by simpa only [State.fieldFound?, State.vm_setVm] using h2'
  have e1 : k'.statics = some a := by rw [he]; exact h4
  have e3 : U.heap[a]? = some cell := by rw [hh a (Array.getElem?_eq_some_iff.mp h5).1]; exact h5
  have v1 : (Term.static o n d).eval A s none [] s = cell.slots[f.slot]? := by simp [Term.eval, State.fieldNamed?, h2, h3, h4, h5, h6]
  have v2 : (Term.static o n d).eval A' U none [] U = cell.slots[f.slot]? := by simp [Term.eval, State.fieldNamed?, h2'', h3, e1, e3, h6]
  simp only [Cond.before, Cond.holds, Cond.value, v1, v2] at h ⊢
  exact h
/-- what a throw asks for, of any state on the way -/
def XK (U : State) : Prop := (∀ a ∈ xl, a.before #[] U = true) ∧ (∃ q, vk_R R_CY 185 xT1 q U) ∧ (∃ q, vk_R R_CY 192 xT2 q U)
theorem XK.move {s U : State} (hW : s.WarmedH U.vm) (hh : ∀ q : Nat, q < s.heap.size → U.heap[q]? = s.heap[q]?) (h : XK s) : XK U := by
  refine ⟨fun a ha => ?_, ?_, ?_⟩
  · have h3 := xA_3
    simp only [Bool.and_eq_true, decide_eq_true_eq] at h3
    have h1 := List.all_eq_true.mp xA_2 a ha
    rw [Bool.or_eq_true, Bool.and_eq_true, decide_eq_true_eq] at h1
    rcases h1 with h1 | h1
    · simp only [List.mem_cons, List.not_mem_nil, or_false] at h1
      rcases h1 with e | e | e | e
      · subst e; exact xmR hW hh (h.1 xL1 h3.1.1.1) (h.1 _ ha)
      · subst e; exact xmR hW hh (h.1 xL2 h3.1.1.2) (h.1 _ ha)
      · subst e; exact xmL hW hh (h.1 _ ha)
      · subst e; exact xmL hW hh (h.1 _ ha)
    · exact xmT h1.1 h1.2 hW (h.1 a ha)
  · obtain ⟨q, hq⟩ := h.2.1
    exact ⟨q, vk_R.warm hW hq⟩
  · obtain ⟨q, hq⟩ := h.2.2
    exact ⟨q, vk_R.warm hW hq⟩
/-- a throwing method's pre: the world, the tables, the throw's own -/
def cX (V : gV) (w : va_W) (As : List Value) : Array Value → State → Prop := va_Pc As (fun U => va_P V.1 clz w U.heap ∧ gK V U ∧ XK U)
theorem cX.blind {V : gV} {w : va_W} {As : List Value} : FrameBlind (cX V w As) := fun _ U g mk q => ⟨q.1, q.2.1, gK.vm (s := U) rfl q.2.2.1, XK.move (s := U) (State.WarmedH.refl U) (fun _ _ => rfl) q.2.2.2⟩
abbrev mX (l : Launch) (y : MethodName) (ws : List Cond) (rm : Room) (V : gV) (w : va_W) (As : List Value) (cls : String) : Prop := MetX l y ws rm (cX V w As) cls 1 6
section GX2
variable {p : Program} {l : Launch} {e : Env} {R : Room} {s : State} {m : MethodId} {args : Array Value} {below : List Frame} {meth : Method} {c : Code} {V : gV} {nL : Nat} {lv : List (Nat × Value)} {pc : Nat} {cc : ByteArray}
/-- new, dup, ldc, <init>, athrow -/
theorem g_raise (E : gE p s m args c cc nL R_CY V) (htr : e.platform.stackTraces = false) (hne : c.exceptionTable.isEmpty = true) (hlk : meth.locks = false) (hx : XK s) {cls : String} {tx : String} {i1 i2 i3 q : Nat} (hcls : Bundle.fit cls = true) (hlink : Cond.classLink R_CY i1 cls ∈ gt) (hini : (Cond.initialized cls) ∈ xl) (hat : ∀ a ∈ Bundle.ownAtoms R_CY i3 cls nUp, a ∈ xl) (hs : vk_R R_CY i2 tx q s)
    (h0 : decode cc pc = .ok (.new i1, 3)) (h1 : decode cc (pc + 3) = .ok (.dup, 1)) (h2 : decode cc (pc + 4) = .ok (.ldc i2, 2)) (h3 : decode cc (pc + 6) = .ok (.invokespecial i3, 3)) (h4 : decode cc (pc + 9) = .ok (.athrow, 1)) (hR : 5 < R.frames ∧ 82 ≤ R.locals ∧ 1 ≤ R.cells ∧ 6 ≤ R.slots) :
    gg p l e R s m args below meth c nL (MQX below cls s 1 6) 0 0 (gR s.heap []) lv pc [] := by
  have hX : ∀ a ∈ xl, ∀ A : Array Value, a.before A s = true := by
    intro a ha A
    have h3 := xA_3
    simp only [Bool.and_eq_true, decide_eq_true_eq] at h3
    have h1 := List.all_eq_true.mp xA_2 a ha
    rw [Bool.or_eq_true, Bool.and_eq_true, decide_eq_true_eq] at h1
    rcases h1 with h1 | h1
    · simp only [List.mem_cons, List.not_mem_nil, or_false] at h1
      rcases h1 with e | e | e | e
      · subst e; exact xmR (State.WarmedH.refl s) (fun _ _ => rfl) (hx.1 xL1 h3.1.1.1) (hx.1 _ ha)
      · subst e; exact xmR (State.WarmedH.refl s) (fun _ _ => rfl) (hx.1 xL2 h3.1.1.2) (hx.1 _ ha)
      · subst e; exact xmL (State.WarmedH.refl s) (fun _ _ => rfl) (hx.1 _ ha)
      · subst e; exact xmL (State.WarmedH.refl s) (fun _ _ => rfl) (hx.1 _ ha)
    · exact xmT h1.1 h1.2 (State.WarmedH.refl s) (hx.1 a ha)
  intro H locs ls ho hl T hT X
  obtain ⟨e1, e2⟩ := ho
  subst e1; subst e2
  obtain ⟨vm₁, cX, kX, hfX, hkX, -, -, X₁, st1⟩ := X.newCold E.1 (own := R_CY) (C := cls) (index := i1) (n := 6) E.2.2.2.1 (E.2.2.2.2.1 _ hlink) (hX _ (hat (.instantiable cls 6) (by simp [Bundle.ownAtoms])) _) (hX _ hini _) (g := F0 m pc ls []) rfl (by rw [E.2.1]; exact h0) (by omega) (by omega)
  generalize hT1 : (T.setVm vm₁).pushCell { cls := cX, slots := kX.instanceTypes.map defaultValue, vm := .none } = T1 at X₁ st1
  have hcellA : T1.heap[T.heap.size]? = some (freshCell cX kX) := by rw [← hT1]; exact State.heap_pushCell_size _ _
  have K : W p l e R s m args below meth c T1.heap [] (0 + 1) (0 + 6) (MQX below cls s 1 6) (F0 m (pc + 3) ls [.ref T.heap.size]) := by
    refine lv_dup E.1 E.2.1 h1 rfl (va_ldcS E.1 E.2.1 E.2.2.2.1 hs h2 ?_)
    intro T2 hT2 X2
    obtain ⟨U, hsteps, hrun, hend, hW, hsame, ce, hce, KK⟩ := X2.ctorThrowS E.1 htr (own := R_CY) (cls := cls) (names := nUp) (ic := i3) E.2.2.2.1 hcls (by decide +kernel)
      (fun y hy => hX y (hat y hy) _) (fun y hy => by cases hy) hfX hkX (a := T.heap.size) (by rw [hT2]; exact hcellA) (by rw [hT]; exact Nat.le_refl _) (msg := .ref q) rfl
      (g := F0 m (pc + 4 + 2) ls [.ref q, .ref T.heap.size, .ref T.heap.size]) rfl (by rw [E.2.2.1]; exact hl.1) rfl rfl (rest := []) rfl
      (by rw [E.2.1]; exact h3) (by rw [E.2.1]; exact h4) (covers_of_empty hne _) (by simp [nUp]; omega) (by simp [nUp, Value.category, F0, JFrame.monitorRoom]; omega) hlk
    exact ⟨U, hsteps, T.heap.size, hrun, hend, hW, by simpa using hsame, by rw [hT]; exact Nat.le_refl _, ce, hce, KK.vm, KK.cls⟩
  obtain ⟨t, a1, b1⟩ := K T1 rfl X₁
  exact ⟨t, st1 t a1, b1⟩
end GX2
end
section
theorem inR_y {j n : Nat} (h : j < n) (hn : n < 2 ^ 31) : inR (nI j) (nI n) = true := (inR_iff hn).mpr ⟨j, h, rfl⟩
theorem inB_y {a v b : Nat} (h1 : a ≤ v) (h2 : v ≤ b) (hb : b < 2 ^ 31) : inB (nI v) (nI a) (nI b) = true := by
  simp only [inB, Bool.and_eq_true, Bool.not_eq_true', decide_eq_false_iff_not]
  rw [nI_ltI (by omega) (by omega), nI_ltI (by omega) (by omega)]; omega
theorem hasSt_y {np : Nat} {st : Nat → Nat} {i a : Nat} (h1 : i < np) (h2 : np ≤ 12) (h3 : a < st i) (h4 : st i ≤ 4) : hasSt np st (nI i) (nI a) = true := by
  rw [hasSt, inR_y h1 (by omega), show (nI i).toNatClampNeg = i from nI_clamp (by omega), inR_y h3 (by omega)]; rfl

set_option maxHeartbeats 4000000 in
set_option maxRecDepth 100000 in
theorem C_CY_refuseUnless (l : Launch) {V : gV} {w : va_W}  : mPv l y_CY_refuseUnless (w_CY_refuseUnless :: gt) rm_CY_refuseUnless V (w  ) [.int (nI 1)] := by
  refine gMet (V := V) (As := [.int (nI 1)]) (cc := c_CY_refuseUnless) (maxL := 1) (ret := none) (by decide) rfl (Nat.le_of_ble_eq_true rfl) (fun a U h => ⟨h.1, h.2.2⟩) ?_
  intro p e s m below meth c E hr hlk hnm hv
  have hO := gO_r (locs1 := []) (ws := w  ) hv.2.1
  refine g_iload_n E d_CY_refuseUnless_0 rfl 0 rfl ?_
  refine g_nif_ne E 14 d_CY_refuseUnless_1 (by decide) (by decide) (fun _ => ?_) (fun h1 => absurd h1 (by decide))
  exact g_vret E hr hlk d_CY_refuseUnless_14 (gq_v trivial)

set_option maxHeartbeats 4000000 in
set_option maxRecDepth 100000 in
theorem C_CY_refuseIfFull (l : Launch) {V : gV} {w : va_W}  : mPv l y_CY_refuseIfFull (w_CY_refuseIfFull :: gt) rm_CY_refuseIfFull V (w  ) [.int (nI 0)] := by
  refine gMet (V := V) (As := [.int (nI 0)]) (cc := c_CY_refuseIfFull) (maxL := 1) (ret := none) (by decide) rfl (Nat.le_of_ble_eq_true rfl) (fun a U h => ⟨h.1, h.2.2⟩) ?_
  intro p e s m below meth c E hr hlk hnm hv
  have hO := gO_r (locs1 := []) (ws := w  ) hv.2.1
  refine g_iload_n E d_CY_refuseIfFull_0 rfl 0 rfl ?_
  refine g_nif_eq E 14 d_CY_refuseIfFull_1 (by decide) (by decide) (fun _ => ?_) (fun h1 => absurd h1 (by decide))
  exact g_vret E hr hlk d_CY_refuseIfFull_14 (gq_v trivial)

set_option maxHeartbeats 4000000 in
set_option maxRecDepth 100000 in
theorem X_CY_refuseUnless (l : Launch) (hf : l.flags = flags0) {V : gV} {w : va_W} : mX l y_CY_refuseUnless (w_CY_refuseUnless :: gt) { frames := 6, cells := 1, slots := 6, locals := 100 } V w [.int (nI 0)] nIAE := by
  refine gMetX (V := V) (As := [.int (nI 0)]) (cc := c_CY_refuseUnless) (maxL := 1) (ret := none) (by decide) rfl (Nat.le_of_ble_eq_true rfl) (fun a U h => ⟨h.1, h.2.2.1⟩) ?_
  intro p e s m below meth c E hadm hne hlk hv
  refine g_iload_n E d_CY_refuseUnless_0 rfl 0 rfl ?_
  refine g_nif_ne E 14 d_CY_refuseUnless_1 (by decide) (by decide) (fun h => absurd h (by decide)) (fun _ => ?_)
  obtain ⟨q, hq⟩ := hv.2.2.2.2.1
  exact g_raise E (Launch.traces_off hf hadm) hne hlk hv.2.2.2 (by decide +kernel) kt_CY_183 (by simp [xl]) (fun a ha => by simp only [xl, List.mem_append]; exact Or.inl (Or.inl ha)) hq d_CY_refuseUnless_4 d_CY_refuseUnless_7 d_CY_refuseUnless_8 d_CY_refuseUnless_10 d_CY_refuseUnless_13 ⟨by decide, by decide, by decide, by decide⟩

set_option maxHeartbeats 4000000 in
set_option maxRecDepth 100000 in
theorem X_CY_refuseIfFull (l : Launch) (hf : l.flags = flags0) {V : gV} {w : va_W} : mX l y_CY_refuseIfFull (w_CY_refuseIfFull :: gt) { frames := 6, cells := 1, slots := 6, locals := 100 } V w [.int (nI 1)] nISE := by
  refine gMetX (V := V) (As := [.int (nI 1)]) (cc := c_CY_refuseIfFull) (maxL := 1) (ret := none) (by decide) rfl (Nat.le_of_ble_eq_true rfl) (fun a U h => ⟨h.1, h.2.2.1⟩) ?_
  intro p e s m below meth c E hadm hne hlk hv
  refine g_iload_n E d_CY_refuseIfFull_0 rfl 0 rfl ?_
  refine g_nif_eq E 14 d_CY_refuseIfFull_1 (by decide) (by decide) (fun h => absurd h (by decide)) (fun _ => ?_)
  obtain ⟨q, hq⟩ := hv.2.2.2.2.2
  exact g_raise E (Launch.traces_off hf hadm) hne hlk hv.2.2.2 (by decide +kernel) kt_CY_190 (by simp [xl]) (fun a ha => by simp only [xl, List.mem_append]; exact Or.inl (Or.inr ha)) hq d_CY_refuseIfFull_4 d_CY_refuseIfFull_7 d_CY_refuseIfFull_8 d_CY_refuseIfFull_10 d_CY_refuseIfFull_13 ⟨by decide, by decide, by decide, by decide⟩

set_option maxHeartbeats 4000000 in
set_option maxRecDepth 100000 in
theorem C_CY_index (l : Launch) {V : gV} {ad r1 r2 r3 : Nat → Nat} {nY : Nat} {ix bu : Nat → Nat} {np : Nat} {st sr : Nat → Nat} {sx tk : Nat → Nat → Nat} {rn sh sn : Nat → Nat} {yw nw : Nat} {yo ce wo : Nat → Nat} {po ne : Nat → Option Nat} {cs : Nat → Nat} {sv : Nat → Nat → Nat} {mk : Nat} {sp rs : Nat → Int} {bg dp : Nat} (y v : Nat) (hy : y < nY) (hY : nY ≤ 12) (h1 : 500 ≤ v) (h2 : v ≤ 2000) : mWi l y_CY_index (w_CY_index :: gt) rm_CY_index V (wC V ad r1 r2 r3 nY ix bu np st sr sx tk rn sh sn yw nw yo ce wo po ne cs sv mk sp rs bg dp) [.ref (ad 0), .int (nI y), .int (nI v)] (nI (ix y)) (wC V ad r1 r2 r3 nY (va_up ix y v) bu np st sr sx tk rn sh sn yw nw yo ce wo po ne cs sv mk sp rs bg dp) 0 0 := by
  intro sz
  refine gMet (V := V) (As := [.ref (ad 0), .int (nI y), .int (nI v)]) (cc := c_CY_index) (maxL := 4) (ret := (some .int)) (by decide) rfl (Nat.le_of_ble_eq_true rfl) (fun a U h => ⟨h.1, h.2.2.2.1⟩) ?_
  intro p e s m below meth c E hr hlk hnm hv
  refine g_toW (sz := sz) (w := wC V ad r1 r2 r3 nY ix bu np st sr sx tk rn sh sn yw nw yo ce wo po ne cs sv mk sp rs bg dp) hv.2.2.1 hv.2.2.2.2 ?_
  have hA0 : ∀ q : Nat, s.heap.size ≤ q → va_A (wC V ad r1 r2 r3 nY ix bu np st sr sx tk rn sh sn yw nw yo ce wo po ne cs sv mk sp rs bg dp) sz q := fun q h => Or.inr (by rw [← hv.2.1]; exact h)
  refine g_aload_n E d_CY_index_0 rfl 0 rfl ?_
  refine gf_CY_21 E gO_w 0 rfl rfl d_CY_index_1 ?_
  refine g_iload_n E d_CY_index_4 rfl 1 rfl ?_
  refine gpVi (As := [.int (nI y)]) (rest := []) E gO_w 1 rfl rfl (C_Ye_has l (nI y)) (cs_CY_47 E rfl rfl ⟨Nat.le_of_ble_eq_true rfl, Nat.le_of_ble_eq_true rfl⟩) rfl rfl (Nat.le_of_ble_eq_true rfl) ⟨Nat.zero_le _, Nat.zero_le _⟩ d_CY_index_5 ?_
  refine g_topi (show bI _ = nI 1 from by rw [inR_y (by omega) (by omega)]; rfl) ?_
  refine g_nif_eq E 28 d_CY_index_8 (by decide) (by decide) (fun h1 => absurd h1 (by decide)) (fun _ => ?_)
  refine g_iload_n E d_CY_index_11 rfl 2 rfl ?_
  refine g_sipush (v := nI 500) E d_CY_index_12 (by decide) ?_
  refine g_sipush (v := nI 2000) E d_CY_index_15 (by decide) ?_
  refine gpSi (As := [.int (nI v), .int (nI 500), .int (nI 2000)]) (rest := []) E gO_w (C_CY_isWithin l (nI v) (nI 500) (nI 2000)) (cs_CY_51 E rfl rfl ⟨Nat.le_of_ble_eq_true rfl, Nat.le_of_ble_eq_true rfl⟩) rfl rfl (Nat.le_of_ble_eq_true rfl) ⟨Nat.zero_le _, Nat.zero_le _⟩ d_CY_index_18 ?_
  refine g_topi (show bI _ = nI 1 from by rw [inB_y (by omega) (by omega) (by omega)]; rfl) ?_
  refine g_nif_eq E 28 d_CY_index_21 (by decide) (by decide) (fun h2 => absurd h2 (by decide)) (fun _ => ?_)
  refine g_iconst (v := nI 1) E d_CY_index_24 (by decide) ?_
  refine g_goto E 29 d_CY_index_25 (by decide) ?_
  refine gpSv (As := [.int (nI 1)]) (rest := []) E gO_w (C_CY_refuseUnless l) (cs_CY_55 E rfl rfl ⟨Nat.le_of_ble_eq_true rfl, Nat.le_of_ble_eq_true rfl⟩) rfl rfl (Nat.le_of_ble_eq_true rfl) ⟨Nat.zero_le _, Nat.zero_le _⟩ d_CY_index_29 ?_
  refine g_aload_n E d_CY_index_32 rfl 0 rfl ?_
  refine gf_CY_21 E gO_w 0 rfl rfl d_CY_index_33 ?_
  refine gf_CY_59 E gO_w 1 rfl rfl d_CY_index_36 ?_
  refine g_iload_n E d_CY_index_39 rfl 1 rfl ?_
  refine g_ldN E gO_w 2 rfl (by omega) (by decide) d_CY_index_40 ?_
  refine g_istore_n (lv' := [(3, .int (nI (ix y))), (0, .ref (ad 0)), (1, .int (nI y)), (2, .int (nI v))]) E d_CY_index_41 rfl (by decide) rfl ?_
  refine g_aload_n E d_CY_index_42 rfl 1 rfl ?_
  refine gf_CY_21 E gO_w 0 rfl rfl d_CY_index_43 ?_
  refine gf_CY_59 E gO_w 1 rfl rfl d_CY_index_46 ?_
  refine g_iload_n E d_CY_index_49 rfl 2 rfl ?_
  refine g_iload_n E d_CY_index_50 rfl 3 rfl ?_
  refine g_stN (ws' := wC V ad r1 r2 r3 nY (va_up ix y v) bu np st sr sx tk rn sh sn yw nw yo ce wo po ne cs sv mk sp rs bg dp) E 2 rfl (by omega) (by decide) rfl d_CY_index_51 ?_
  refine g_iload_n E d_CY_index_52 rfl 0 rfl ?_
  exact g_iret E hr hlk d_CY_index_53 (gq_wi (w1 := fun _ => wC V ad r1 r2 r3 nY (va_up ix y v) bu np st sr sx tk rn sh sn yw nw yo ce wo po ne cs sv mk sp rs bg dp) () (rfl))

set_option maxHeartbeats 4000000 in
set_option maxRecDepth 100000 in
theorem C_CY_budget (l : Launch) {V : gV} {ad r1 r2 r3 : Nat → Nat} {nY : Nat} {ix bu : Nat → Nat} {np : Nat} {st sr : Nat → Nat} {sx tk : Nat → Nat → Nat} {rn sh sn : Nat → Nat} {yw nw : Nat} {yo ce wo : Nat → Nat} {po ne : Nat → Option Nat} {cs : Nat → Nat} {sv : Nat → Nat → Nat} {mk : Nat} {sp rs : Nat → Int} {bg dp : Nat} (y v : Nat) (hy : y < nY) (hY : nY ≤ 12) (h2 : v ≤ 1000000000) : mWi l y_CY_budget (w_CY_budget :: gt) rm_CY_budget V (wC V ad r1 r2 r3 nY ix bu np st sr sx tk rn sh sn yw nw yo ce wo po ne cs sv mk sp rs bg dp) [.ref (ad 0), .int (nI y), .int (nI v)] (nI (bu y)) (wC V ad r1 r2 r3 nY ix (va_up bu y v) np st sr sx tk rn sh sn yw nw yo ce wo po ne cs sv mk sp rs bg dp) 0 0 := by
  intro sz
  refine gMet (V := V) (As := [.ref (ad 0), .int (nI y), .int (nI v)]) (cc := c_CY_budget) (maxL := 4) (ret := (some .int)) (by decide) rfl (Nat.le_of_ble_eq_true rfl) (fun a U h => ⟨h.1, h.2.2.2.1⟩) ?_
  intro p e s m below meth c E hr hlk hnm hv
  refine g_toW (sz := sz) (w := wC V ad r1 r2 r3 nY ix bu np st sr sx tk rn sh sn yw nw yo ce wo po ne cs sv mk sp rs bg dp) hv.2.2.1 hv.2.2.2.2 ?_
  have hA0 : ∀ q : Nat, s.heap.size ≤ q → va_A (wC V ad r1 r2 r3 nY ix bu np st sr sx tk rn sh sn yw nw yo ce wo po ne cs sv mk sp rs bg dp) sz q := fun q h => Or.inr (by rw [← hv.2.1]; exact h)
  refine g_aload_n E d_CY_budget_0 rfl 0 rfl ?_
  refine gf_CY_21 E gO_w 0 rfl rfl d_CY_budget_1 ?_
  refine g_iload_n E d_CY_budget_4 rfl 1 rfl ?_
  refine gpVi (As := [.int (nI y)]) (rest := []) E gO_w 1 rfl rfl (C_Ye_has l (nI y)) (cs_CY_47 E rfl rfl ⟨Nat.le_of_ble_eq_true rfl, Nat.le_of_ble_eq_true rfl⟩) rfl rfl (Nat.le_of_ble_eq_true rfl) ⟨Nat.zero_le _, Nat.zero_le _⟩ d_CY_budget_5 ?_
  refine g_topi (show bI _ = nI 1 from by rw [inR_y (by omega) (by omega)]; rfl) ?_
  refine g_nif_eq E 25 d_CY_budget_8 (by decide) (by decide) (fun h1 => absurd h1 (by decide)) (fun _ => ?_)
  refine g_iload_n E d_CY_budget_11 rfl 2 rfl ?_
  refine g_iconst (v := nI 0) E d_CY_budget_12 (by decide) ?_
  refine g_ldc E kk_CY_63 d_CY_budget_13 ?_
  refine g_topi (show ((1000000000) : Int32) = nI 1000000000 from by decide) ?_
  refine gpSi (As := [.int (nI v), .int (nI 0), .int (nI 1000000000)]) (rest := []) E gO_w (C_CY_isWithin l (nI v) (nI 0) (nI 1000000000)) (cs_CY_51 E rfl rfl ⟨Nat.le_of_ble_eq_true rfl, Nat.le_of_ble_eq_true rfl⟩) rfl rfl (Nat.le_of_ble_eq_true rfl) ⟨Nat.zero_le _, Nat.zero_le _⟩ d_CY_budget_15 ?_
  refine g_topi (show bI _ = nI 1 from by rw [inB_y (by omega) (by omega) (by omega)]; rfl) ?_
  refine g_nif_eq E 25 d_CY_budget_18 (by decide) (by decide) (fun h2 => absurd h2 (by decide)) (fun _ => ?_)
  refine g_iconst (v := nI 1) E d_CY_budget_21 (by decide) ?_
  refine g_goto E 26 d_CY_budget_22 (by decide) ?_
  refine gpSv (As := [.int (nI 1)]) (rest := []) E gO_w (C_CY_refuseUnless l) (cs_CY_55 E rfl rfl ⟨Nat.le_of_ble_eq_true rfl, Nat.le_of_ble_eq_true rfl⟩) rfl rfl (Nat.le_of_ble_eq_true rfl) ⟨Nat.zero_le _, Nat.zero_le _⟩ d_CY_budget_26 ?_
  refine g_aload_n E d_CY_budget_29 rfl 0 rfl ?_
  refine gf_CY_21 E gO_w 0 rfl rfl d_CY_budget_30 ?_
  refine gf_CY_64 E gO_w 1 rfl rfl d_CY_budget_33 ?_
  refine g_iload_n E d_CY_budget_36 rfl 1 rfl ?_
  refine g_ldN E gO_w 3 rfl (by omega) (by decide) d_CY_budget_37 ?_
  refine g_istore_n (lv' := [(3, .int (nI (bu y))), (0, .ref (ad 0)), (1, .int (nI y)), (2, .int (nI v))]) E d_CY_budget_38 rfl (by decide) rfl ?_
  refine g_aload_n E d_CY_budget_39 rfl 1 rfl ?_
  refine gf_CY_21 E gO_w 0 rfl rfl d_CY_budget_40 ?_
  refine gf_CY_64 E gO_w 1 rfl rfl d_CY_budget_43 ?_
  refine g_iload_n E d_CY_budget_46 rfl 2 rfl ?_
  refine g_iload_n E d_CY_budget_47 rfl 3 rfl ?_
  refine g_stN (ws' := wC V ad r1 r2 r3 nY ix (va_up bu y v) np st sr sx tk rn sh sn yw nw yo ce wo po ne cs sv mk sp rs bg dp) E 3 rfl (by omega) (by decide) rfl d_CY_budget_48 ?_
  refine g_iload_n E d_CY_budget_49 rfl 0 rfl ?_
  exact g_iret E hr hlk d_CY_budget_50 (gq_wi (w1 := fun _ => wC V ad r1 r2 r3 nY ix (va_up bu y v) np st sr sx tk rn sh sn yw nw yo ce wo po ne cs sv mk sp rs bg dp) () (rfl))

set_option maxHeartbeats 4000000 in
set_option maxRecDepth 100000 in
theorem C_CY_part (l : Launch) {V : gV} {ad r1 r2 r3 : Nat → Nat} {nY : Nat} {ix bu : Nat → Nat} {np : Nat} {st sr : Nat → Nat} {sx tk : Nat → Nat → Nat} {rn sh sn : Nat → Nat} {yw nw : Nat} {yo ce wo : Nat → Nat} {po ne : Nat → Option Nat} {cs : Nat → Nat} {sv : Nat → Nat → Nat} {mk : Nat} {sp rs : Nat → Int} {bg dp : Nat} (k r : Nat) (h1 : 2 ≤ k) (h2 : k ≤ 4) (h3 : r < k) (hnp : np < 12) : mWi l y_CY_part (w_CY_part :: gt) rm_CY_part V (wC V ad r1 r2 r3 nY ix bu np st sr sx tk rn sh sn yw nw yo ce wo po ne cs sv mk sp rs bg dp) [.ref (ad 0), .int (nI k), .int (nI r)] (nI np) (wC V ad r1 r2 r3 nY ix bu (np + 1) (va_up st np k) (va_up sr np r) (va_up sx np (dgN (sx np) k)) tk rn sh sn yw nw yo ce wo po ne cs sv mk sp rs bg dp) 0 0 := by
  intro sz
  refine gMet (V := V) (As := [.ref (ad 0), .int (nI k), .int (nI r)]) (cc := c_CY_part) (maxL := 3) (ret := (some .int)) (by decide) rfl (Nat.le_of_ble_eq_true rfl) (fun a U h => ⟨h.1, h.2.2.2.1⟩) ?_
  intro p e s m below meth c E hr hlk hnm hv
  refine g_toW (sz := sz) (w := wC V ad r1 r2 r3 nY ix bu np st sr sx tk rn sh sn yw nw yo ce wo po ne cs sv mk sp rs bg dp) hv.2.2.1 hv.2.2.2.2 ?_
  have hA0 : ∀ q : Nat, s.heap.size ≤ q → va_A (wC V ad r1 r2 r3 nY ix bu np st sr sx tk rn sh sn yw nw yo ce wo po ne cs sv mk sp rs bg dp) sz q := fun q h => Or.inr (by rw [← hv.2.1]; exact h)
  refine g_iload_n E d_CY_part_0 rfl 1 rfl ?_
  refine g_iconst (v := nI 2) E d_CY_part_1 (by decide) ?_
  refine g_iconst (v := nI 4) E d_CY_part_2 (by decide) ?_
  refine gpSi (As := [.int (nI k), .int (nI 2), .int (nI 4)]) (rest := []) E gO_w (C_CY_isWithin l (nI k) (nI 2) (nI 4)) (cs_CY_51 E rfl rfl ⟨Nat.le_of_ble_eq_true rfl, Nat.le_of_ble_eq_true rfl⟩) rfl rfl (Nat.le_of_ble_eq_true rfl) ⟨Nat.zero_le _, Nat.zero_le _⟩ d_CY_part_3 ?_
  refine g_topi (show bI _ = nI 1 from by rw [inB_y (by omega) (by omega) (by omega)]; rfl) ?_
  refine gpSv (As := [.int (nI 1)]) (rest := []) E gO_w (C_CY_refuseUnless l) (cs_CY_55 E rfl rfl ⟨Nat.le_of_ble_eq_true rfl, Nat.le_of_ble_eq_true rfl⟩) rfl rfl (Nat.le_of_ble_eq_true rfl) ⟨Nat.zero_le _, Nat.zero_le _⟩ d_CY_part_6 ?_
  refine g_iload_n E d_CY_part_9 rfl 2 rfl ?_
  refine g_iconst (v := nI 0) E d_CY_part_10 (by decide) ?_
  refine g_iload_n E d_CY_part_11 rfl 1 rfl ?_
  refine g_iconst (v := nI 1) E d_CY_part_12 (by decide) ?_
  refine g_isub E d_CY_part_13 ?_
  refine g_topi (pk_sub (by omega)) ?_
  refine gpSi (As := [.int (nI r), .int (nI 0), .int (nI (k - 1))]) (rest := []) E gO_w (C_CY_isWithin l (nI r) (nI 0) (nI (k - 1))) (cs_CY_51 E rfl rfl ⟨Nat.le_of_ble_eq_true rfl, Nat.le_of_ble_eq_true rfl⟩) rfl rfl (Nat.le_of_ble_eq_true rfl) ⟨Nat.zero_le _, Nat.zero_le _⟩ d_CY_part_14 ?_
  refine g_topi (show bI _ = nI 1 from by rw [inB_y (by omega) (by omega) (by omega)]; rfl) ?_
  refine gpSv (As := [.int (nI 1)]) (rest := []) E gO_w (C_CY_refuseUnless l) (cs_CY_55 E rfl rfl ⟨Nat.le_of_ble_eq_true rfl, Nat.le_of_ble_eq_true rfl⟩) rfl rfl (Nat.le_of_ble_eq_true rfl) ⟨Nat.zero_le _, Nat.zero_le _⟩ d_CY_part_17 ?_
  refine g_aload_n E d_CY_part_20 rfl 0 rfl ?_
  refine gf_CY_30 E gO_w 0 rfl rfl d_CY_part_21 ?_
  refine gf_CY_67 E gO_w 4 rfl rfl d_CY_part_24 ?_
  refine g_bipush (v := nI 12) E d_CY_part_27 (by decide) ?_
  refine g_ncmp_lt E 36 d_CY_part_29 (by decide) (by omega) (by omega) (fun h1 => ?_) (fun h1 => ?_)
  · refine g_iconst (v := nI 0) E d_CY_part_36 (by decide) ?_
    refine gpSv (As := [.int (nI 0)]) (rest := []) E gO_w (C_CY_refuseIfFull l) (cs_CY_71 E rfl rfl ⟨Nat.le_of_ble_eq_true rfl, Nat.le_of_ble_eq_true rfl⟩) rfl rfl (Nat.le_of_ble_eq_true rfl) ⟨Nat.zero_le _, Nat.zero_le _⟩ d_CY_part_37 ?_
    refine g_aload_n E d_CY_part_40 rfl 0 rfl ?_
    refine gf_CY_30 E gO_w 0 rfl rfl d_CY_part_41 ?_
    refine g_iload_n E d_CY_part_44 rfl 1 rfl ?_
    refine g_iload_n E d_CY_part_45 rfl 2 rfl ?_
    refine gwVi (As := [.int (nI k), .int (nI r)]) (rest := []) (w' := wC V ad r1 r2 r3 nY ix bu (np + 1) (va_up st np k) (va_up sr np r) (va_up sx np (dgN (sx np) k)) tk rn sh sn yw nw yo ce wo po ne cs sv mk sp rs bg dp) (mc := 0) (ms := 0) E hA0 4 rfl rfl (C_Pa_add l k r (by omega) (by omega)) (cs_CY_74 E rfl rfl ⟨Nat.le_of_ble_eq_true rfl, Nat.le_of_ble_eq_true rfl⟩) rfl rfl (Nat.le_of_ble_eq_true rfl) ⟨Nat.zero_le _, Nat.zero_le _⟩ d_CY_part_46 ?_
    exact g_iret E hr hlk d_CY_part_49 (gq_wi (w1 := fun _ => wC V ad r1 r2 r3 nY ix bu (np + 1) (va_up st np k) (va_up sr np r) (va_up sx np (dgN (sx np) k)) tk rn sh sn yw nw yo ce wo po ne cs sv mk sp rs bg dp) () (rfl))
  · exact absurd h1 (by omega)

set_option maxHeartbeats 4000000 in
set_option maxRecDepth 100000 in
theorem C_CY_moves (l : Launch) {V : gV} {ad r1 r2 r3 : Nat → Nat} {nY : Nat} {ix bu : Nat → Nat} {np : Nat} {st sr : Nat → Nat} {sx tk : Nat → Nat → Nat} {rn sh sn : Nat → Nat} {yw nw : Nat} {yo ce wo : Nat → Nat} {po ne : Nat → Option Nat} {cs : Nat → Nat} {sv : Nat → Nat → Nat} {mk : Nat} {sp rs : Nat → Int} {bg dp : Nat} (i a b v : Nat) (hi : i < np) (hnp : np ≤ 12) (hs : st i ≤ 4) (ha : a < st i) (hb : b < st i) (hab : a ≠ b) (hv16 : v ≤ 16) (hsx : v ≤ sx i (a * 4 + a) + sx i (a * 4 + b)) (hx : ∀ i j, sx i j ≤ 16) : mWi l y_CY_moves (w_CY_moves :: gt) rm_CY_moves V (wC V ad r1 r2 r3 nY ix bu np st sr sx tk rn sh sn yw nw yo ce wo po ne cs sv mk sp rs bg dp) [.ref (ad 0), .int (nI i), .int (nI a), .int (nI b), .int (nI v)] (nI (sx i (a * 4 + b))) (wC V ad r1 r2 r3 nY ix bu np st sr (mUp (mUp sx i (a * 4 + b) v) i (a * 4 + a) (sx i (a * 4 + a) + sx i (a * 4 + b) - v)) tk rn sh sn yw nw yo ce wo po ne cs sv mk sp rs bg dp) 0 0 := by
  intro sz
  refine gMet (V := V) (As := [.ref (ad 0), .int (nI i), .int (nI a), .int (nI b), .int (nI v)]) (cc := c_CY_moves) (maxL := 7) (ret := (some .int)) (by decide) rfl (Nat.le_of_ble_eq_true rfl) (fun a U h => ⟨h.1, h.2.2.2.1⟩) ?_
  intro p e s m below meth c E hr hlk hnm hv
  refine g_toW (sz := sz) (w := wC V ad r1 r2 r3 nY ix bu np st sr sx tk rn sh sn yw nw yo ce wo po ne cs sv mk sp rs bg dp) hv.2.2.1 hv.2.2.2.2 ?_
  have hA0 : ∀ q : Nat, s.heap.size ≤ q → va_A (wC V ad r1 r2 r3 nY ix bu np st sr sx tk rn sh sn yw nw yo ce wo po ne cs sv mk sp rs bg dp) sz q := fun q h => Or.inr (by rw [← hv.2.1]; exact h)
  have x1 := hx i (a * 4 + a)
  have x2 := hx i (a * 4 + b)
  refine g_aload_n E d_CY_moves_0 rfl 0 rfl ?_
  refine gf_CY_30 E gO_w 0 rfl rfl d_CY_moves_1 ?_
  refine g_iload_n E d_CY_moves_4 rfl 1 rfl ?_
  refine g_iload_n E d_CY_moves_5 rfl 2 rfl ?_
  refine gpVi (As := [.int (nI i), .int (nI a)]) (rest := []) E gO_w 4 rfl rfl (C_Pa_hasState l (nI i) (nI a) (by omega)) (cs_CY_77 E rfl rfl ⟨Nat.le_of_ble_eq_true rfl, Nat.le_of_ble_eq_true rfl⟩) rfl rfl (Nat.le_of_ble_eq_true rfl) ⟨Nat.zero_le _, Nat.zero_le _⟩ d_CY_moves_6 ?_
  refine g_topi (show bI _ = nI 1 from by rw [hasSt_y (by omega) (by omega) (by omega) (by omega)]; rfl) ?_
  refine g_nif_eq E 33 d_CY_moves_9 (by decide) (by decide) (fun h1 => absurd h1 (by decide)) (fun _ => ?_)
  refine g_aload_n E d_CY_moves_12 rfl 0 rfl ?_
  refine gf_CY_30 E gO_w 0 rfl rfl d_CY_moves_13 ?_
  refine g_iload_n E d_CY_moves_16 rfl 1 rfl ?_
  refine g_iload_n E d_CY_moves_17 rfl 3 rfl ?_
  refine gpVi (As := [.int (nI i), .int (nI b)]) (rest := []) E gO_w 4 rfl rfl (C_Pa_hasState l (nI i) (nI b) (by omega)) (cs_CY_77 E rfl rfl ⟨Nat.le_of_ble_eq_true rfl, Nat.le_of_ble_eq_true rfl⟩) rfl rfl (Nat.le_of_ble_eq_true rfl) ⟨Nat.zero_le _, Nat.zero_le _⟩ d_CY_moves_18 ?_
  refine g_topi (show bI _ = nI 1 from by rw [hasSt_y (by omega) (by omega) (by omega) (by omega)]; rfl) ?_
  refine g_nif_eq E 33 d_CY_moves_21 (by decide) (by decide) (fun h2 => absurd h2 (by decide)) (fun _ => ?_)
  refine g_iload_n E d_CY_moves_24 rfl 2 rfl ?_
  refine g_iload_n E d_CY_moves_25 rfl 3 rfl ?_
  refine g_ncmp_eq E 33 d_CY_moves_26 (by decide) (by omega) (by omega) (fun h3 => ?_) (fun h3 => ?_)
  · exact absurd h3 (by omega)
  · refine g_iconst (v := nI 1) E d_CY_moves_29 (by decide) ?_
    refine g_goto E 34 d_CY_moves_30 (by decide) ?_
    refine gpSv (As := [.int (nI 1)]) (rest := []) E gO_w (C_CY_refuseUnless l) (cs_CY_55 E rfl rfl ⟨Nat.le_of_ble_eq_true rfl, Nat.le_of_ble_eq_true rfl⟩) rfl rfl (Nat.le_of_ble_eq_true rfl) ⟨Nat.zero_le _, Nat.zero_le _⟩ d_CY_moves_34 ?_
    refine g_iload E d_CY_moves_37 4 rfl ?_
    refine g_iconst (v := nI 0) E d_CY_moves_39 (by decide) ?_
    refine g_bipush (v := nI 16) E d_CY_moves_40 (by decide) ?_
    refine gpSi (As := [.int (nI v), .int (nI 0), .int (nI 16)]) (rest := []) E gO_w (C_CY_isWithin l (nI v) (nI 0) (nI 16)) (cs_CY_51 E rfl rfl ⟨Nat.le_of_ble_eq_true rfl, Nat.le_of_ble_eq_true rfl⟩) rfl rfl (Nat.le_of_ble_eq_true rfl) ⟨Nat.zero_le _, Nat.zero_le _⟩ d_CY_moves_42 ?_
    refine g_topi (show bI _ = nI 1 from by rw [inB_y (by omega) (by omega) (by omega)]; rfl) ?_
    refine gpSv (As := [.int (nI 1)]) (rest := []) E gO_w (C_CY_refuseUnless l) (cs_CY_55 E rfl rfl ⟨Nat.le_of_ble_eq_true rfl, Nat.le_of_ble_eq_true rfl⟩) rfl rfl (Nat.le_of_ble_eq_true rfl) ⟨Nat.zero_le _, Nat.zero_le _⟩ d_CY_moves_45 ?_
    refine g_aload_n E d_CY_moves_48 rfl 0 rfl ?_
    refine gf_CY_30 E gO_w 0 rfl rfl d_CY_moves_49 ?_
    refine g_iload_n E d_CY_moves_52 rfl 1 rfl ?_
    refine g_iload_n E d_CY_moves_53 rfl 2 rfl ?_
    refine g_iload_n E d_CY_moves_54 rfl 3 rfl ?_
    refine gpVi (As := [.int (nI i), .int (nI a), .int (nI b)]) (rest := []) E gO_w 4 rfl rfl (C_Pa_going l i a b (by omega) (by omega) (by omega)) (cs_CY_81 E rfl rfl ⟨Nat.le_of_ble_eq_true rfl, Nat.le_of_ble_eq_true rfl⟩) rfl rfl (Nat.le_of_ble_eq_true rfl) ⟨Nat.zero_le _, Nat.zero_le _⟩ d_CY_moves_55 ?_
    refine g_istore (lv' := [(5, .int (nI (sx i (a * 4 + b)))), (0, .ref (ad 0)), (1, .int (nI i)), (2, .int (nI a)), (3, .int (nI b)), (4, .int (nI v))]) E d_CY_moves_58 (by decide) rfl ?_
    refine g_aload_n E d_CY_moves_60 rfl 1 rfl ?_
    refine gf_CY_30 E gO_w 0 rfl rfl d_CY_moves_61 ?_
    refine g_iload_n E d_CY_moves_64 rfl 2 rfl ?_
    refine g_iload_n E d_CY_moves_65 rfl 3 rfl ?_
    refine g_iload_n E d_CY_moves_66 rfl 3 rfl ?_
    refine gpVi (As := [.int (nI i), .int (nI a), .int (nI a)]) (rest := []) E gO_w 4 rfl rfl (C_Pa_going l i a a (by omega) (by omega) (by omega)) (cs_CY_81 E rfl rfl ⟨Nat.le_of_ble_eq_true rfl, Nat.le_of_ble_eq_true rfl⟩) rfl rfl (Nat.le_of_ble_eq_true rfl) ⟨Nat.zero_le _, Nat.zero_le _⟩ d_CY_moves_67 ?_
    refine g_iload E d_CY_moves_70 0 rfl ?_
    refine g_iadd E d_CY_moves_72 ?_
    refine g_topi (nI_add _ _) ?_
    refine g_iload E d_CY_moves_73 5 rfl ?_
    refine g_isub E d_CY_moves_75 ?_
    refine g_topi (pk_sub (by omega)) ?_
    refine g_istore (lv' := [(6, .int (nI (((sx i (a * 4 + a)) + (sx i (a * 4 + b))) - v))), (5, .int (nI (sx i (a * 4 + b)))), (0, .ref (ad 0)), (1, .int (nI i)), (2, .int (nI a)), (3, .int (nI b)), (4, .int (nI v))]) E d_CY_moves_76 (by decide) rfl ?_
    refine g_iload E d_CY_moves_78 0 rfl ?_
    refine g_nif_lt E 87 d_CY_moves_80 (by decide) (by omega) ?_
    refine g_iconst (v := nI 1) E d_CY_moves_83 (by decide) ?_
    refine g_goto E 88 d_CY_moves_84 (by decide) ?_
    refine gpSv (As := [.int (nI 1)]) (rest := []) E gO_w (C_CY_refuseUnless l) (cs_CY_55 E rfl rfl ⟨Nat.le_of_ble_eq_true rfl, Nat.le_of_ble_eq_true rfl⟩) rfl rfl (Nat.le_of_ble_eq_true rfl) ⟨Nat.zero_le _, Nat.zero_le _⟩ d_CY_moves_88 ?_
    refine g_aload_n E d_CY_moves_91 rfl 2 rfl ?_
    refine gf_CY_30 E gO_w 0 rfl rfl d_CY_moves_92 ?_
    refine g_iload_n E d_CY_moves_95 rfl 3 rfl ?_
    refine g_iload_n E d_CY_moves_96 rfl 4 rfl ?_
    refine g_iload_n E d_CY_moves_97 rfl 5 rfl ?_
    refine g_iload E d_CY_moves_98 6 rfl ?_
    refine gwVv (As := [.int (nI i), .int (nI a), .int (nI b), .int (nI v)]) (rest := []) (w' := wC V ad r1 r2 r3 nY ix bu np st sr (mUp sx i (a * 4 + b) v) tk rn sh sn yw nw yo ce wo po ne cs sv mk sp rs bg dp) (mc := 0) (ms := 0) E hA0 4 rfl rfl (C_Pa_setGoing l i a b v (by omega) (by omega) (by omega)) (cs_CY_85 E rfl rfl ⟨Nat.le_of_ble_eq_true rfl, Nat.le_of_ble_eq_true rfl⟩) rfl rfl (Nat.le_of_ble_eq_true rfl) ⟨Nat.zero_le _, Nat.zero_le _⟩ d_CY_moves_100 ?_
    refine g_aload_n E d_CY_moves_103 rfl 2 rfl ?_
    refine gf_CY_30 E gO_w 0 rfl rfl d_CY_moves_104 ?_
    refine g_iload_n E d_CY_moves_107 rfl 3 rfl ?_
    refine g_iload_n E d_CY_moves_108 rfl 4 rfl ?_
    refine g_iload_n E d_CY_moves_109 rfl 4 rfl ?_
    refine g_iload E d_CY_moves_110 0 rfl ?_
    refine gwVv (As := [.int (nI i), .int (nI a), .int (nI a), .int (nI (((sx i (a * 4 + a)) + (sx i (a * 4 + b))) - v))]) (rest := []) (w' := wC V ad r1 r2 r3 nY ix bu np st sr (mUp (mUp sx i (a * 4 + b) v) i (a * 4 + a) (((sx i (a * 4 + a)) + (sx i (a * 4 + b))) - v)) tk rn sh sn yw nw yo ce wo po ne cs sv mk sp rs bg dp) (mc := 0) (ms := 0) E hA0 4 rfl rfl (C_Pa_setGoing l i a a (((sx i (a * 4 + a)) + (sx i (a * 4 + b))) - v) (by omega) (by omega) (by omega)) (cs_CY_85 E rfl rfl ⟨Nat.le_of_ble_eq_true rfl, Nat.le_of_ble_eq_true rfl⟩) rfl rfl (Nat.le_of_ble_eq_true rfl) ⟨Nat.zero_le _, Nat.zero_le _⟩ d_CY_moves_112 ?_
    refine g_iload E d_CY_moves_115 1 rfl ?_
    refine g_ws (ws' := wC V ad r1 r2 r3 nY ix bu np st sr (mUp (mUp sx i (a * 4 + b) v) i (a * 4 + a) (sx i (a * 4 + a) + sx i (a * 4 + b) - v)) tk rn sh sn yw nw yo ce wo po ne cs sv mk sp rs bg dp) (rfl) ?_
    exact g_iret E hr hlk d_CY_moves_117 (gq_wi (w1 := fun _ => wC V ad r1 r2 r3 nY ix bu np st sr (mUp (mUp sx i (a * 4 + b) v) i (a * 4 + a) (sx i (a * 4 + a) + sx i (a * 4 + b) - v)) tk rn sh sn yw nw yo ce wo po ne cs sv mk sp rs bg dp) () (rfl))

set_option maxHeartbeats 4000000 in
set_option maxRecDepth 100000 in
theorem C_CY_care (l : Launch) {V : gV} {ad r1 r2 r3 : Nat → Nat} {nY : Nat} {ix bu : Nat → Nat} {np : Nat} {st sr : Nat → Nat} {sx tk : Nat → Nat → Nat} {rn sh sn : Nat → Nat} {yw nw : Nat} {yo ce wo : Nat → Nat} {po ne : Nat → Option Nat} {cs : Nat → Nat} {sv : Nat → Nat → Nat} {mk : Nat} {sp rs : Nat → Int} {bg dp : Nat} (i a v : Nat) (hi : i < np) (hnp : np ≤ 12) (hs : st i ≤ 4) (ha : a < st i) (h2 : v ≤ 1000) : mWi l y_CY_care (w_CY_care :: gt) rm_CY_care V (wC V ad r1 r2 r3 nY ix bu np st sr sx tk rn sh sn yw nw yo ce wo po ne cs sv mk sp rs bg dp) [.ref (ad 0), .int (nI i), .int (nI a), .int (nI v)] (nI (tk i a)) (wC V ad r1 r2 r3 nY ix bu np st sr sx (mUp tk i a v) rn sh sn yw nw yo ce wo po ne cs sv mk sp rs bg dp) 0 0 := by
  intro sz
  refine gMet (V := V) (As := [.ref (ad 0), .int (nI i), .int (nI a), .int (nI v)]) (cc := c_CY_care) (maxL := 5) (ret := (some .int)) (by decide) rfl (Nat.le_of_ble_eq_true rfl) (fun a U h => ⟨h.1, h.2.2.2.1⟩) ?_
  intro p e s m below meth c E hr hlk hnm hv
  refine g_toW (sz := sz) (w := wC V ad r1 r2 r3 nY ix bu np st sr sx tk rn sh sn yw nw yo ce wo po ne cs sv mk sp rs bg dp) hv.2.2.1 hv.2.2.2.2 ?_
  have hA0 : ∀ q : Nat, s.heap.size ≤ q → va_A (wC V ad r1 r2 r3 nY ix bu np st sr sx tk rn sh sn yw nw yo ce wo po ne cs sv mk sp rs bg dp) sz q := fun q h => Or.inr (by rw [← hv.2.1]; exact h)
  refine g_aload_n E d_CY_care_0 rfl 0 rfl ?_
  refine gf_CY_30 E gO_w 0 rfl rfl d_CY_care_1 ?_
  refine g_iload_n E d_CY_care_4 rfl 1 rfl ?_
  refine g_iload_n E d_CY_care_5 rfl 2 rfl ?_
  refine gpVi (As := [.int (nI i), .int (nI a)]) (rest := []) E gO_w 4 rfl rfl (C_Pa_hasState l (nI i) (nI a) (by omega)) (cs_CY_77 E rfl rfl ⟨Nat.le_of_ble_eq_true rfl, Nat.le_of_ble_eq_true rfl⟩) rfl rfl (Nat.le_of_ble_eq_true rfl) ⟨Nat.zero_le _, Nat.zero_le _⟩ d_CY_care_6 ?_
  refine g_topi (show bI _ = nI 1 from by rw [hasSt_y (by omega) (by omega) (by omega) (by omega)]; rfl) ?_
  refine g_nif_eq E 27 d_CY_care_9 (by decide) (by decide) (fun h1 => absurd h1 (by decide)) (fun _ => ?_)
  refine g_iload_n E d_CY_care_12 rfl 3 rfl ?_
  refine g_iconst (v := nI 0) E d_CY_care_13 (by decide) ?_
  refine g_sipush (v := nI 1000) E d_CY_care_14 (by decide) ?_
  refine gpSi (As := [.int (nI v), .int (nI 0), .int (nI 1000)]) (rest := []) E gO_w (C_CY_isWithin l (nI v) (nI 0) (nI 1000)) (cs_CY_51 E rfl rfl ⟨Nat.le_of_ble_eq_true rfl, Nat.le_of_ble_eq_true rfl⟩) rfl rfl (Nat.le_of_ble_eq_true rfl) ⟨Nat.zero_le _, Nat.zero_le _⟩ d_CY_care_17 ?_
  refine g_topi (show bI _ = nI 1 from by rw [inB_y (by omega) (by omega) (by omega)]; rfl) ?_
  refine g_nif_eq E 27 d_CY_care_20 (by decide) (by decide) (fun h2 => absurd h2 (by decide)) (fun _ => ?_)
  refine g_iconst (v := nI 1) E d_CY_care_23 (by decide) ?_
  refine g_goto E 28 d_CY_care_24 (by decide) ?_
  refine gpSv (As := [.int (nI 1)]) (rest := []) E gO_w (C_CY_refuseUnless l) (cs_CY_55 E rfl rfl ⟨Nat.le_of_ble_eq_true rfl, Nat.le_of_ble_eq_true rfl⟩) rfl rfl (Nat.le_of_ble_eq_true rfl) ⟨Nat.zero_le _, Nat.zero_le _⟩ d_CY_care_28 ?_
  refine g_aload_n E d_CY_care_31 rfl 0 rfl ?_
  refine gf_CY_30 E gO_w 0 rfl rfl d_CY_care_32 ?_
  refine gf_CY_89 E gO_w 4 rfl rfl d_CY_care_35 ?_
  refine g_iload_n E d_CY_care_38 rfl 1 rfl ?_
  refine g_aaload E gO_w 8 rfl (by omega) (by decide) d_CY_care_39 ?_
  refine g_iload_n E d_CY_care_40 rfl 2 rfl ?_
  refine g_ldN E gO_w (34 + i) (wC_g2 (by omega)) (by omega) (by decide) d_CY_care_41 ?_
  refine g_istore (lv' := [(4, .int (nI (tk i a))), (0, .ref (ad 0)), (1, .int (nI i)), (2, .int (nI a)), (3, .int (nI v))]) E d_CY_care_42 (by decide) rfl ?_
  refine g_aload_n E d_CY_care_44 rfl 1 rfl ?_
  refine gf_CY_30 E gO_w 0 rfl rfl d_CY_care_45 ?_
  refine gf_CY_89 E gO_w 4 rfl rfl d_CY_care_48 ?_
  refine g_iload_n E d_CY_care_51 rfl 2 rfl ?_
  refine g_aaload E gO_w 8 rfl (by omega) (by decide) d_CY_care_52 ?_
  refine g_iload_n E d_CY_care_53 rfl 3 rfl ?_
  refine g_iload_n E d_CY_care_54 rfl 4 rfl ?_
  refine g_stN (ws' := wC V ad r1 r2 r3 nY ix bu np st sr sx (mUp tk i a v) rn sh sn yw nw yo ce wo po ne cs sv mk sp rs bg dp) E (34 + i) (wC_g2 (by omega)) (by omega) (by decide) (wC_s2 (by omega)) d_CY_care_55 ?_
  refine g_iload E d_CY_care_56 0 rfl ?_
  exact g_iret E hr hlk d_CY_care_58 (gq_wi (w1 := fun _ => wC V ad r1 r2 r3 nY ix bu np st sr sx (mUp tk i a v) rn sh sn yw nw yo ce wo po ne cs sv mk sp rs bg dp) () (rfl))

set_option maxHeartbeats 4000000 in
set_option maxRecDepth 100000 in
theorem C_CY_share (l : Launch) {V : gV} {ad r1 r2 r3 : Nat → Nat} {nY : Nat} {ix bu : Nat → Nat} {np : Nat} {st sr : Nat → Nat} {sx tk : Nat → Nat → Nat} {rn sh sn : Nat → Nat} {yw nw : Nat} {yo ce wo : Nat → Nat} {po ne : Nat → Option Nat} {cs : Nat → Nat} {sv : Nat → Nat → Nat} {mk : Nat} {sp rs : Nat → Int} {bg dp : Nat} (i a y : Nat) (hi : i < np) (hnp : np ≤ 12) (hs : st i ≤ 4) (ha : a < st i) (hy : y < nY) (hY : nY ≤ 12) (hr : sr i < 4) (hn : rn i < 4096) (hx : ∀ i j, sx i j ≤ 16) : mWl l y_CY_share (w_CY_share :: gt) rm_CY_share V (wC V ad r1 r2 r3 nY ix bu np st sr sx tk rn sh sn yw nw yo ce wo po ne cs sv mk sp rs bg dp) [.ref (ad 0), .int (nI i), .int (nI a), .int (nI y)] (lN ((eY (sr i) (sx i) (st i) (rn i) sh sn yw (y + 1)).1 a)) (wC V ad r1 r2 r3 nY ix bu np st sr sx tk rn ((eY (sr i) (sx i) (st i) (rn i) sh sn yw (y + 1)).1) ((eY (sr i) (sx i) (st i) (rn i) sh sn yw (y + 1)).2.2) ((eY (sr i) (sx i) (st i) (rn i) sh sn yw (y + 1)).2.1) nw yo ce wo po ne cs sv mk sp rs bg dp) 0 0 := by
  intro sz
  refine gMet (V := V) (As := [.ref (ad 0), .int (nI i), .int (nI a), .int (nI y)]) (cc := c_CY_share) (maxL := 4) (ret := (some .long)) (by decide) rfl (Nat.le_of_ble_eq_true rfl) (fun a U h => ⟨h.1, h.2.2.2.1⟩) ?_
  intro p e s m below meth c E hr hlk hnm hv
  refine g_toW (sz := sz) (w := wC V ad r1 r2 r3 nY ix bu np st sr sx tk rn sh sn yw nw yo ce wo po ne cs sv mk sp rs bg dp) hv.2.2.1 hv.2.2.2.2 ?_
  have hA0 : ∀ q : Nat, s.heap.size ≤ q → va_A (wC V ad r1 r2 r3 nY ix bu np st sr sx tk rn sh sn yw nw yo ce wo po ne cs sv mk sp rs bg dp) sz q := fun q h => Or.inr (by rw [← hv.2.1]; exact h)
  refine g_aload_n E d_CY_share_0 rfl 0 rfl ?_
  refine gf_CY_30 E gO_w 0 rfl rfl d_CY_share_1 ?_
  refine g_iload_n E d_CY_share_4 rfl 1 rfl ?_
  refine g_iload_n E d_CY_share_5 rfl 2 rfl ?_
  refine gpVi (As := [.int (nI i), .int (nI a)]) (rest := []) E gO_w 4 rfl rfl (C_Pa_hasState l (nI i) (nI a) (by omega)) (cs_CY_77 E rfl rfl ⟨Nat.le_of_ble_eq_true rfl, Nat.le_of_ble_eq_true rfl⟩) rfl rfl (Nat.le_of_ble_eq_true rfl) ⟨Nat.zero_le _, Nat.zero_le _⟩ d_CY_share_6 ?_
  refine g_topi (show bI _ = nI 1 from by rw [hasSt_y (by omega) (by omega) (by omega) (by omega)]; rfl) ?_
  refine g_nif_eq E 27 d_CY_share_9 (by decide) (by decide) (fun h1 => absurd h1 (by decide)) (fun _ => ?_)
  refine g_aload_n E d_CY_share_12 rfl 0 rfl ?_
  refine gf_CY_21 E gO_w 0 rfl rfl d_CY_share_13 ?_
  refine g_iload_n E d_CY_share_16 rfl 3 rfl ?_
  refine gpVi (As := [.int (nI y)]) (rest := []) E gO_w 1 rfl rfl (C_Ye_has l (nI y)) (cs_CY_47 E rfl rfl ⟨Nat.le_of_ble_eq_true rfl, Nat.le_of_ble_eq_true rfl⟩) rfl rfl (Nat.le_of_ble_eq_true rfl) ⟨Nat.zero_le _, Nat.zero_le _⟩ d_CY_share_17 ?_
  refine g_topi (show bI _ = nI 1 from by rw [inR_y (by omega) (by omega)]; rfl) ?_
  refine g_nif_eq E 27 d_CY_share_20 (by decide) (by decide) (fun h2 => absurd h2 (by decide)) (fun _ => ?_)
  refine g_iconst (v := nI 1) E d_CY_share_23 (by decide) ?_
  refine g_goto E 28 d_CY_share_24 (by decide) ?_
  refine gpSv (As := [.int (nI 1)]) (rest := []) E gO_w (C_CY_refuseUnless l) (cs_CY_55 E rfl rfl ⟨Nat.le_of_ble_eq_true rfl, Nat.le_of_ble_eq_true rfl⟩) rfl rfl (Nat.le_of_ble_eq_true rfl) ⟨Nat.zero_le _, Nat.zero_le _⟩ d_CY_share_28 ?_
  refine g_aload_n E d_CY_share_31 rfl 0 rfl ?_
  refine gf_CY_30 E gO_w 0 rfl rfl d_CY_share_32 ?_
  refine g_iload_n E d_CY_share_35 rfl 1 rfl ?_
  refine g_iload_n E d_CY_share_36 rfl 3 rfl ?_
  refine gwVv (As := [.int (nI i), .int (nI y)]) (rest := []) (w' := wC V ad r1 r2 r3 nY ix bu np st sr sx tk rn ((eY (sr i) (sx i) (st i) (rn i) sh sn yw (y + 1)).1) ((eY (sr i) (sx i) (st i) (rn i) sh sn yw (y + 1)).2.2) ((eY (sr i) (sx i) (st i) (rn i) sh sn yw (y + 1)).2.1) nw yo ce wo po ne cs sv mk sp rs bg dp) (mc := 0) (ms := 0) E hA0 4 rfl rfl (C_Pa_goTo l i y (by omega) (by omega) (by omega) (by omega) (by omega) hx) (cs_CY_93 E rfl rfl ⟨Nat.le_of_ble_eq_true rfl, Nat.le_of_ble_eq_true rfl⟩) rfl rfl (Nat.le_of_ble_eq_true rfl) ⟨Nat.zero_le _, Nat.zero_le _⟩ d_CY_share_37 ?_
  refine g_aload_n E d_CY_share_40 rfl 0 rfl ?_
  refine gf_CY_30 E gO_w 0 rfl rfl d_CY_share_41 ?_
  refine gf_CY_97 E gO_w 4 rfl rfl d_CY_share_44 ?_
  refine g_iload_n E d_CY_share_47 rfl 2 rfl ?_
  refine g_ldL E gO_w 10 rfl (by omega) (by decide) d_CY_share_48 ?_
  exact g_lret E hr hlk d_CY_share_49 (gq_wl (w1 := fun _ => wC V ad r1 r2 r3 nY ix bu np st sr sx tk rn ((eY (sr i) (sx i) (st i) (rn i) sh sn yw (y + 1)).1) ((eY (sr i) (sx i) (st i) (rn i) sh sn yw (y + 1)).2.2) ((eY (sr i) (sx i) (st i) (rn i) sh sn yw (y + 1)).2.1) nw yo ce wo po ne cs sv mk sp rs bg dp) () (by simp))

set_option maxHeartbeats 4000000 in
set_option maxRecDepth 100000 in
theorem C_CY_cares (l : Launch) {V : gV} {ad r1 r2 r3 : Nat → Nat} {nY : Nat} {ix bu : Nat → Nat} {np : Nat} {st sr : Nat → Nat} {sx tk : Nat → Nat → Nat} {rn sh sn : Nat → Nat} {yw nw : Nat} {yo ce wo : Nat → Nat} {po ne : Nat → Option Nat} {cs : Nat → Nat} {sv : Nat → Nat → Nat} {mk : Nat} {sp rs : Nat → Int} {bg dp : Nat} (i y : Nat) (hi : i < np) (hnp : np ≤ 12) (hs : st i ≤ 4) (hy : y < nY) (hY : nY ≤ 12) (hr : sr i < 4) (hn : rn i < 4096) (hx : ∀ i j, sx i j ≤ 16) (hsi : sr i < st i) (hM : ∀ a, a < st i → sumN (fun j => sx i (a * 4 + j)) (st i) = 16) (ht : ∀ i j, tk i j ≤ 1000) (hix : ∀ y, ix y ≤ 2000) : mWi l y_CY_cares (w_CY_cares :: gt) rm_CY_cares V (wC V ad r1 r2 r3 nY ix bu np st sr sx tk rn sh sn yw nw yo ce wo po ne cs sv mk sp rs bg dp) [.ref (ad 0), .int (nI i), .int (nI y)] (nI (cY ix st sr sx tk rn i y)) (wC V ad r1 r2 r3 nY ix bu np st sr sx tk rn ((eY (sr i) (sx i) (st i) (rn i) sh sn yw (y + 1)).1) ((eY (sr i) (sx i) (st i) (rn i) sh sn yw (y + 1)).2.2) ((eY (sr i) (sx i) (st i) (rn i) sh sn yw (y + 1)).2.1) nw yo ce wo po ne cs sv mk sp rs bg dp) 0 0 := by
  intro sz
  refine gMet (V := V) (As := [.ref (ad 0), .int (nI i), .int (nI y)]) (cc := c_CY_cares) (maxL := 3) (ret := (some .int)) (by decide) rfl (Nat.le_of_ble_eq_true rfl) (fun a U h => ⟨h.1, h.2.2.2.1⟩) ?_
  intro p e s m below meth c E hr hlk hnm hv
  refine g_toW (sz := sz) (w := wC V ad r1 r2 r3 nY ix bu np st sr sx tk rn sh sn yw nw yo ce wo po ne cs sv mk sp rs bg dp) hv.2.2.1 hv.2.2.2.2 ?_
  have hA0 : ∀ q : Nat, s.heap.size ≤ q → va_A (wC V ad r1 r2 r3 nY ix bu np st sr sx tk rn sh sn yw nw yo ce wo po ne cs sv mk sp rs bg dp) sz q := fun q h => Or.inr (by rw [← hv.2.1]; exact h)
  refine g_aload_n E d_CY_cares_0 rfl 0 rfl ?_
  refine gf_CY_30 E gO_w 0 rfl rfl d_CY_cares_1 ?_
  refine g_iload_n E d_CY_cares_4 rfl 1 rfl ?_
  refine gpVi (As := [.int (nI i)]) (rest := []) E gO_w 4 rfl rfl (C_Pa_has l (nI i)) (cs_CY_100 E rfl rfl ⟨Nat.le_of_ble_eq_true rfl, Nat.le_of_ble_eq_true rfl⟩) rfl rfl (Nat.le_of_ble_eq_true rfl) ⟨Nat.zero_le _, Nat.zero_le _⟩ d_CY_cares_5 ?_
  refine g_topi (show bI _ = nI 1 from by rw [inR_y (by omega) (by omega)]; rfl) ?_
  refine g_nif_eq E 26 d_CY_cares_8 (by decide) (by decide) (fun h1 => absurd h1 (by decide)) (fun _ => ?_)
  refine g_aload_n E d_CY_cares_11 rfl 0 rfl ?_
  refine gf_CY_21 E gO_w 0 rfl rfl d_CY_cares_12 ?_
  refine g_iload_n E d_CY_cares_15 rfl 2 rfl ?_
  refine gpVi (As := [.int (nI y)]) (rest := []) E gO_w 1 rfl rfl (C_Ye_has l (nI y)) (cs_CY_47 E rfl rfl ⟨Nat.le_of_ble_eq_true rfl, Nat.le_of_ble_eq_true rfl⟩) rfl rfl (Nat.le_of_ble_eq_true rfl) ⟨Nat.zero_le _, Nat.zero_le _⟩ d_CY_cares_16 ?_
  refine g_topi (show bI _ = nI 1 from by rw [inR_y (by omega) (by omega)]; rfl) ?_
  refine g_nif_eq E 26 d_CY_cares_19 (by decide) (by decide) (fun h2 => absurd h2 (by decide)) (fun _ => ?_)
  refine g_iconst (v := nI 1) E d_CY_cares_22 (by decide) ?_
  refine g_goto E 27 d_CY_cares_23 (by decide) ?_
  refine gpSv (As := [.int (nI 1)]) (rest := []) E gO_w (C_CY_refuseUnless l) (cs_CY_55 E rfl rfl ⟨Nat.le_of_ble_eq_true rfl, Nat.le_of_ble_eq_true rfl⟩) rfl rfl (Nat.le_of_ble_eq_true rfl) ⟨Nat.zero_le _, Nat.zero_le _⟩ d_CY_cares_27 ?_
  refine g_aload_n E d_CY_cares_30 rfl 0 rfl ?_
  refine gf_CY_30 E gO_w 0 rfl rfl d_CY_cares_31 ?_
  refine g_iload_n E d_CY_cares_34 rfl 1 rfl ?_
  refine g_iload_n E d_CY_cares_35 rfl 2 rfl ?_
  refine gwVv (As := [.int (nI i), .int (nI y)]) (rest := []) (w' := wC V ad r1 r2 r3 nY ix bu np st sr sx tk rn ((eY (sr i) (sx i) (st i) (rn i) sh sn yw (y + 1)).1) ((eY (sr i) (sx i) (st i) (rn i) sh sn yw (y + 1)).2.2) ((eY (sr i) (sx i) (st i) (rn i) sh sn yw (y + 1)).2.1) nw yo ce wo po ne cs sv mk sp rs bg dp) (mc := 0) (ms := 0) E hA0 4 rfl rfl (C_Pa_goTo l i y (by omega) (by omega) (by omega) (by omega) (by omega) hx) (cs_CY_93 E rfl rfl ⟨Nat.le_of_ble_eq_true rfl, Nat.le_of_ble_eq_true rfl⟩) rfl rfl (Nat.le_of_ble_eq_true rfl) ⟨Nat.zero_le _, Nat.zero_le _⟩ d_CY_cares_36 ?_
  refine g_aload_n E d_CY_cares_39 rfl 0 rfl ?_
  refine gf_CY_21 E gO_w 0 rfl rfl d_CY_cares_40 ?_
  refine g_iload_n E d_CY_cares_43 rfl 2 rfl ?_
  refine g_aload_n E d_CY_cares_44 rfl 0 rfl ?_
  refine gf_CY_30 E gO_w 0 rfl rfl d_CY_cares_45 ?_
  refine g_iload_n E d_CY_cares_48 rfl 1 rfl ?_
  refine gpVi (As := [.int (nI i)]) (rest := [.int (nI y), .ref (ad 1)]) E gO_w 4 rfl rfl ((C_Pa_careTaken l i (by omega) hs ht (by rw [eY_sh]; exact tk_lt hsi hM (by omega) (ht _)) (by rw [eY_yw]; exact (shC_sum hsi hM (by omega)).2))) (cs_CY_101 E rfl rfl ⟨Nat.le_of_ble_eq_true rfl, Nat.le_of_ble_eq_true rfl⟩) rfl rfl (Nat.le_of_ble_eq_true rfl) ⟨Nat.zero_le _, Nat.zero_le _⟩ d_CY_cares_49 ?_
  refine g_topi (show nI _ = nI (tkC (sr i) (sx i) (st i) (rn i) (tk i) y) from congrArg nI (by unfold tkC; rw [← eY_sh (sh := sh) (sn := sn) (yw := yw), ← eY_yw (sh := sh) (sn := sn) (yw := yw)])) ?_
  have q4 := tkC_le (rn := rn i) hsi hM (show y < 12 by omega) (ht i)
  have q5 := hix y
  refine gpVi (As := [.int (nI y), .int (nI (tkC (sr i) (sx i) (st i) (rn i) (tk i) y))]) (rest := []) E gO_w 1 rfl rfl (C_Ye_costIn l y (tkC (sr i) (sx i) (st i) (rn i) (tk i) y) (by omega) (by omega) (by omega)) (cs_CY_105 E rfl rfl ⟨Nat.le_of_ble_eq_true rfl, Nat.le_of_ble_eq_true rfl⟩) rfl rfl (Nat.le_of_ble_eq_true rfl) ⟨Nat.zero_le _, Nat.zero_le _⟩ d_CY_cares_52 ?_
  exact g_iret E hr hlk d_CY_cares_55 (gq_wi (w1 := fun _ => wC V ad r1 r2 r3 nY ix bu np st sr sx tk rn ((eY (sr i) (sx i) (st i) (rn i) sh sn yw (y + 1)).1) ((eY (sr i) (sx i) (st i) (rn i) sh sn yw (y + 1)).2.2) ((eY (sr i) (sx i) (st i) (rn i) sh sn yw (y + 1)).2.1) nw yo ce wo po ne cs sv mk sp rs bg dp) () (rfl))

set_option maxHeartbeats 4000000 in
set_option maxRecDepth 100000 in
theorem C_CY_most (l : Launch) {V : gV} {ad r1 r2 r3 : Nat → Nat} {nY : Nat} {ix bu : Nat → Nat} {np : Nat} {st sr : Nat → Nat} {sx tk : Nat → Nat → Nat} {rn sh sn : Nat → Nat} {yw nw : Nat} {yo ce wo : Nat → Nat} {po ne : Nat → Option Nat} {cs : Nat → Nat} {sv : Nat → Nat → Nat} {mk : Nat} {sp rs : Nat → Int} {bg dp : Nat} (i y : Nat) (hi : i < np) (hnp : np ≤ 12) (hs : st i ≤ 4) (hs2 : 2 ≤ st i) (hy : y < nY) (hY : nY ≤ 12) (hr : sr i < 4) (hn : rn i < 4096) (hx : ∀ i j, sx i j ≤ 16) (hb : ∀ a, a < 4 → (eY (sr i) (sx i) (st i) (rn i) sh sn yw (y + 1)).1 a < 2 ^ 62) : mWi l y_CY_most (w_CY_most :: gt) rm_CY_most V (wC V ad r1 r2 r3 nY ix bu np st sr sx tk rn sh sn yw nw yo ce wo po ne cs sv mk sp rs bg dp) [.ref (ad 0), .int (nI i), .int (nI y)] (nI (grS (eY (sr i) (sx i) (st i) (rn i) sh sn yw (y + 1)).1 (st i - 1))) (wC V ad r1 r2 r3 nY ix bu np st sr sx tk rn ((eY (sr i) (sx i) (st i) (rn i) sh sn yw (y + 1)).1) ((eY (sr i) (sx i) (st i) (rn i) sh sn yw (y + 1)).2.2) ((eY (sr i) (sx i) (st i) (rn i) sh sn yw (y + 1)).2.1) nw yo ce wo po ne cs sv mk sp rs bg dp) 0 0 := by
  intro sz
  refine gMet (V := V) (As := [.ref (ad 0), .int (nI i), .int (nI y)]) (cc := c_CY_most) (maxL := 3) (ret := (some .int)) (by decide) rfl (Nat.le_of_ble_eq_true rfl) (fun a U h => ⟨h.1, h.2.2.2.1⟩) ?_
  intro p e s m below meth c E hr hlk hnm hv
  refine g_toW (sz := sz) (w := wC V ad r1 r2 r3 nY ix bu np st sr sx tk rn sh sn yw nw yo ce wo po ne cs sv mk sp rs bg dp) hv.2.2.1 hv.2.2.2.2 ?_
  have hA0 : ∀ q : Nat, s.heap.size ≤ q → va_A (wC V ad r1 r2 r3 nY ix bu np st sr sx tk rn sh sn yw nw yo ce wo po ne cs sv mk sp rs bg dp) sz q := fun q h => Or.inr (by rw [← hv.2.1]; exact h)
  refine g_aload_n E d_CY_most_0 rfl 0 rfl ?_
  refine gf_CY_30 E gO_w 0 rfl rfl d_CY_most_1 ?_
  refine g_iload_n E d_CY_most_4 rfl 1 rfl ?_
  refine gpVi (As := [.int (nI i)]) (rest := []) E gO_w 4 rfl rfl (C_Pa_has l (nI i)) (cs_CY_100 E rfl rfl ⟨Nat.le_of_ble_eq_true rfl, Nat.le_of_ble_eq_true rfl⟩) rfl rfl (Nat.le_of_ble_eq_true rfl) ⟨Nat.zero_le _, Nat.zero_le _⟩ d_CY_most_5 ?_
  refine g_topi (show bI _ = nI 1 from by rw [inR_y (by omega) (by omega)]; rfl) ?_
  refine g_nif_eq E 26 d_CY_most_8 (by decide) (by decide) (fun h1 => absurd h1 (by decide)) (fun _ => ?_)
  refine g_aload_n E d_CY_most_11 rfl 0 rfl ?_
  refine gf_CY_21 E gO_w 0 rfl rfl d_CY_most_12 ?_
  refine g_iload_n E d_CY_most_15 rfl 2 rfl ?_
  refine gpVi (As := [.int (nI y)]) (rest := []) E gO_w 1 rfl rfl (C_Ye_has l (nI y)) (cs_CY_47 E rfl rfl ⟨Nat.le_of_ble_eq_true rfl, Nat.le_of_ble_eq_true rfl⟩) rfl rfl (Nat.le_of_ble_eq_true rfl) ⟨Nat.zero_le _, Nat.zero_le _⟩ d_CY_most_16 ?_
  refine g_topi (show bI _ = nI 1 from by rw [inR_y (by omega) (by omega)]; rfl) ?_
  refine g_nif_eq E 26 d_CY_most_19 (by decide) (by decide) (fun h2 => absurd h2 (by decide)) (fun _ => ?_)
  refine g_iconst (v := nI 1) E d_CY_most_22 (by decide) ?_
  refine g_goto E 27 d_CY_most_23 (by decide) ?_
  refine gpSv (As := [.int (nI 1)]) (rest := []) E gO_w (C_CY_refuseUnless l) (cs_CY_55 E rfl rfl ⟨Nat.le_of_ble_eq_true rfl, Nat.le_of_ble_eq_true rfl⟩) rfl rfl (Nat.le_of_ble_eq_true rfl) ⟨Nat.zero_le _, Nat.zero_le _⟩ d_CY_most_27 ?_
  refine g_aload_n E d_CY_most_30 rfl 0 rfl ?_
  refine gf_CY_30 E gO_w 0 rfl rfl d_CY_most_31 ?_
  refine g_iload_n E d_CY_most_34 rfl 1 rfl ?_
  refine g_iload_n E d_CY_most_35 rfl 2 rfl ?_
  refine gwVv (As := [.int (nI i), .int (nI y)]) (rest := []) (w' := wC V ad r1 r2 r3 nY ix bu np st sr sx tk rn ((eY (sr i) (sx i) (st i) (rn i) sh sn yw (y + 1)).1) ((eY (sr i) (sx i) (st i) (rn i) sh sn yw (y + 1)).2.2) ((eY (sr i) (sx i) (st i) (rn i) sh sn yw (y + 1)).2.1) nw yo ce wo po ne cs sv mk sp rs bg dp) (mc := 0) (ms := 0) E hA0 4 rfl rfl (C_Pa_goTo l i y (by omega) (by omega) (by omega) (by omega) (by omega) hx) (cs_CY_93 E rfl rfl ⟨Nat.le_of_ble_eq_true rfl, Nat.le_of_ble_eq_true rfl⟩) rfl rfl (Nat.le_of_ble_eq_true rfl) ⟨Nat.zero_le _, Nat.zero_le _⟩ d_CY_most_36 ?_
  refine g_aload_n E d_CY_most_39 rfl 0 rfl ?_
  refine gf_CY_30 E gO_w 0 rfl rfl d_CY_most_40 ?_
  refine g_iload_n E d_CY_most_43 rfl 1 rfl ?_
  refine gpVi (As := [.int (nI i)]) (rest := []) E gO_w 4 rfl rfl (C_Pa_greatestState l i (by omega) (by omega) (by omega) hb) (cs_CY_108 E rfl rfl ⟨Nat.le_of_ble_eq_true rfl, Nat.le_of_ble_eq_true rfl⟩) rfl rfl (Nat.le_of_ble_eq_true rfl) ⟨Nat.zero_le _, Nat.zero_le _⟩ d_CY_most_44 ?_
  exact g_iret E hr hlk d_CY_most_47 (gq_wi (w1 := fun _ => wC V ad r1 r2 r3 nY ix bu np st sr sx tk rn ((eY (sr i) (sx i) (st i) (rn i) sh sn yw (y + 1)).1) ((eY (sr i) (sx i) (st i) (rn i) sh sn yw (y + 1)).2.2) ((eY (sr i) (sx i) (st i) (rn i) sh sn yw (y + 1)).2.1) nw yo ce wo po ne cs sv mk sp rs bg dp) () (by simp))
end
