/-! names, printed by wip/tools/names.py out of the claim's own listing and tables -/
/-- the tables' words that stay true on the way: every method's contract asks for these, and its own code -/
def gt : List Cond := lw_tbl.filter goodWord
theorem gt_at (i : Nat) {w : Cond} (h : lw_tbl[i]? = some w) (hg : goodWord w = true) : w ∈ gt := List.mem_filter.mpr ⟨List.mem_of_getElem? h, hg⟩
theorem gt_good : GoodIn gt gt := fun w h => ⟨h, good_of_word (List.mem_filter.mp h).2⟩
theorem gt_cons {w : Cond} (h : w ∈ gt) (v : Cond) : GoodIn (v :: gt) (w :: gt) := fun x hx => by
  rcases List.mem_cons.mp hx with e | h1
  · subst e
    exact ⟨List.mem_cons_of_mem _ h, (gt_good _ h).2⟩
  · exact ⟨List.mem_cons_of_mem _ h1, (gt_good _ h1).2⟩
theorem gt_to {w : Cond} (h : w ∈ gt) : GoodIn gt (w :: gt) := fun x hx => by
  rcases List.mem_cons.mp hx with e | h1
  · subst e
    exact gt_good _ h
  · exact gt_good _ h1
theorem gt_in : ∀ w ∈ gt, w ∈ lw_tbl := fun _ h => (List.mem_filter.mp h).1
def R_CY : String := "CostYears"
def R_Lo : String := "CostYears$Loan"
def R_Pa : String := "CostYears$Parts"
def R_Wo : String := "CostYears$Works"
def R_Ye : String := "CostYears$Years"
def R_Mo : String := "CostYearsModel"
def R_La : String := "CostYearsLaw"
def R_Ar : String := "java/util/Arrays"
def R_Ma : String := "java/lang/Math"
def T_CY : u_T := fun k => match k with
  | 0 => ("CostYears", "years", "LCostYears$Years;", true)
  | 1 => ("CostYears", "parts", "LCostYears$Parts;", true)
  | 2 => ("CostYears", "works", "LCostYears$Works;", true)
  | 3 => ("CostYears", "reserves", "[J", true)
  | 4 => ("CostYears", "beginning", "I", false)
  | _ => ("CostYears", "deposit", "I", false)
def ty_CY : Nat → FieldType := fun k => match k with
  | 0 => .object "CostYears$Years"
  | 1 => .object "CostYears$Parts"
  | 2 => .object "CostYears$Works"
  | 3 => .array .long
  | 4 => .int
  | _ => .int
theorem nm_CY : ∀ a, a < 6 → ∀ b, b < 6 → a ≠ b → (T_CY a).2.1 ≠ (T_CY b).2.1 := by decide +kernel
theorem tyok_CY : ∀ k, k < 6 → parseFieldDescriptor (T_CY k).2.2.1 = some (ty_CY k) := by decide +kernel
def T_Ye : u_T := fun k => match k with
  | 0 => ("CostYears$Years", "count", "I", true)
  | 1 => ("CostYears$Years", "indexes", "[I", true)
  | _ => ("CostYears$Years", "budgets", "[I", true)
def ty_Ye : Nat → FieldType := fun k => match k with
  | 0 => .int
  | 1 => .array .int
  | _ => .array .int
theorem nm_Ye : ∀ a, a < 3 → ∀ b, b < 3 → a ≠ b → (T_Ye a).2.1 ≠ (T_Ye b).2.1 := by decide +kernel
theorem tyok_Ye : ∀ k, k < 3 → parseFieldDescriptor (T_Ye k).2.2.1 = some (ty_Ye k) := by decide +kernel
def T_Pa : u_T := fun k => match k with
  | 0 => ("CostYears$Parts", "count", "I", false)
  | 1 => ("CostYears$Parts", "states", "[I", true)
  | 2 => ("CostYears$Parts", "starts", "[I", true)
  | 3 => ("CostYears$Parts", "sixteenths", "[[I", true)
  | 4 => ("CostYears$Parts", "takes", "[[I", true)
  | 5 => ("CostYears$Parts", "renewals", "[I", true)
  | 6 => ("CostYears$Parts", "shares", "[J", true)
  | 7 => ("CostYears$Parts", "sharesNext", "[J", true)
  | _ => ("CostYears$Parts", "yearsWorn", "I", false)
def ty_Pa : Nat → FieldType := fun k => match k with
  | 0 => .int
  | 1 => .array .int
  | 2 => .array .int
  | 3 => .array (.array .int)
  | 4 => .array (.array .int)
  | 5 => .array .int
  | 6 => .array .long
  | 7 => .array .long
  | _ => .int
theorem nm_Pa : ∀ a, a < 9 → ∀ b, b < 9 → a ≠ b → (T_Pa a).2.1 ≠ (T_Pa b).2.1 := by decide +kernel
theorem tyok_Pa : ∀ k, k < 9 → parseFieldDescriptor (T_Pa k).2.2.1 = some (ty_Pa k) := by decide +kernel
def T_Wo : u_T := fun k => match k with
  | 0 => ("CostYears$Works", "years", "LCostYears$Years;", true)
  | 1 => ("CostYears$Works", "count", "I", false)
  | 2 => ("CostYears$Works", "yearOf", "[I", true)
  | 3 => ("CostYears$Works", "cents", "[I", true)
  | 4 => ("CostYears$Works", "worth", "[I", true)
  | 5 => ("CostYears$Works", "partOf", "[I", true)
  | 6 => ("CostYears$Works", "needed", "[I", true)
  | 7 => ("CostYears$Works", "clashing", "[I", true)
  | 8 => ("CostYears$Works", "saves", "[[I", true)
  | 9 => ("CostYears$Works", "made", "I", false)
  | _ => ("CostYears$Works", "spent", "[I", true)
def ty_Wo : Nat → FieldType := fun k => match k with
  | 0 => .object "CostYears$Years"
  | 1 => .int
  | 2 => .array .int
  | 3 => .array .int
  | 4 => .array .int
  | 5 => .array .int
  | 6 => .array .int
  | 7 => .array .int
  | 8 => .array (.array .int)
  | 9 => .int
  | _ => .array .int
theorem nm_Wo : ∀ a, a < 11 → ∀ b, b < 11 → a ≠ b → (T_Wo a).2.1 ≠ (T_Wo b).2.1 := by decide +kernel
theorem tyok_Wo : ∀ k, k < 11 → parseFieldDescriptor (T_Wo k).2.2.1 = some (ty_Wo k) := by decide +kernel
def T_Mo : u_T := fun k => match k with
  | 0 => ("CostYearsModel", "thrown", "I", false)
  | 1 => ("CostYearsModel", "years", "I", true)
  | 2 => ("CostYearsModel", "indexes", "[I", true)
  | 3 => ("CostYearsModel", "budgets", "[I", true)
  | 4 => ("CostYearsModel", "parts", "I", false)
  | 5 => ("CostYearsModel", "states", "[I", true)
  | 6 => ("CostYearsModel", "starts", "[I", true)
  | 7 => ("CostYearsModel", "goes", "[I", true)
  | 8 => ("CostYearsModel", "cares", "[I", true)
  | 9 => ("CostYearsModel", "works", "I", false)
  | 10 => ("CostYearsModel", "workYears", "[I", true)
  | 11 => ("CostYearsModel", "cents", "[I", true)
  | 12 => ("CostYearsModel", "worths", "[I", true)
  | 13 => ("CostYearsModel", "renews", "[I", true)
  | 14 => ("CostYearsModel", "needed", "[I", true)
  | 15 => ("CostYearsModel", "saves", "[I", true)
  | 16 => ("CostYearsModel", "clashes", "[Z", true)
  | 17 => ("CostYearsModel", "chosen", "I", false)
  | 18 => ("CostYearsModel", "beginning", "J", false)
  | 19 => ("CostYearsModel", "deposit", "J", false)
  | 20 => ("CostYearsModel", "shares", "[J", true)
  | 21 => ("CostYearsModel", "next", "[J", true)
  | _ => ("CostYearsModel", "spent", "J", false)
def ty_Mo : Nat → FieldType := fun k => match k with
  | 0 => .int
  | 1 => .int
  | 2 => .array .int
  | 3 => .array .int
  | 4 => .int
  | 5 => .array .int
  | 6 => .array .int
  | 7 => .array .int
  | 8 => .array .int
  | 9 => .int
  | 10 => .array .int
  | 11 => .array .int
  | 12 => .array .int
  | 13 => .array .int
  | 14 => .array .int
  | 15 => .array .int
  | 16 => .array .boolean
  | 17 => .int
  | 18 => .long
  | 19 => .long
  | 20 => .array .long
  | 21 => .array .long
  | _ => .long
theorem nm_Mo : ∀ a, a < 23 → ∀ b, b < 23 → a ≠ b → (T_Mo a).2.1 ≠ (T_Mo b).2.1 := by decide +kernel
theorem tyok_Mo : ∀ k, k < 23 → parseFieldDescriptor (T_Mo k).2.2.1 = some (ty_Mo k) := by decide +kernel
abbrev clz : List vw_C := [(R_CY, T_CY, 6), (R_Ye, T_Ye, 3), (R_Pa, T_Pa, 9), (R_Wo, T_Wo, 11), (R_Mo, T_Mo, 23)]
set_option maxRecDepth 100000 in
theorem in_CY : ∀ w ∈ u_ws R_CY T_CY 6, w ∈ gt := by
  intro w hw
  obtain ⟨k, hk, rfl⟩ := List.mem_map.mp hw
  have hk := List.mem_range.mp hk
  match k, hk with
  | 0, _ => exact gt_at 173 (by decide +kernel) (by decide +kernel)
  | 1, _ => exact gt_at 175 (by decide +kernel) (by decide +kernel)
  | 2, _ => exact gt_at 177 (by decide +kernel) (by decide +kernel)
  | 3, _ => exact gt_at 179 (by decide +kernel) (by decide +kernel)
  | 4, _ => exact gt_at 181 (by decide +kernel) (by decide +kernel)
  | 5, _ => exact gt_at 183 (by decide +kernel) (by decide +kernel)
  | k + 6, hk => exact absurd hk (by omega)
set_option maxRecDepth 100000 in
theorem in_Ye : ∀ w ∈ u_ws R_Ye T_Ye 3, w ∈ gt := by
  intro w hw
  obtain ⟨k, hk, rfl⟩ := List.mem_map.mp hw
  have hk := List.mem_range.mp hk
  match k, hk with
  | 0, _ => exact gt_at 69 (by decide +kernel) (by decide +kernel)
  | 1, _ => exact gt_at 71 (by decide +kernel) (by decide +kernel)
  | 2, _ => exact gt_at 73 (by decide +kernel) (by decide +kernel)
  | k + 3, hk => exact absurd hk (by omega)
set_option maxRecDepth 100000 in
theorem in_Pa : ∀ w ∈ u_ws R_Pa T_Pa 9, w ∈ gt := by
  intro w hw
  obtain ⟨k, hk, rfl⟩ := List.mem_map.mp hw
  have hk := List.mem_range.mp hk
  match k, hk with
  | 0, _ => exact gt_at 98 (by decide +kernel) (by decide +kernel)
  | 1, _ => exact gt_at 100 (by decide +kernel) (by decide +kernel)
  | 2, _ => exact gt_at 102 (by decide +kernel) (by decide +kernel)
  | 3, _ => exact gt_at 104 (by decide +kernel) (by decide +kernel)
  | 4, _ => exact gt_at 106 (by decide +kernel) (by decide +kernel)
  | 5, _ => exact gt_at 108 (by decide +kernel) (by decide +kernel)
  | 6, _ => exact gt_at 110 (by decide +kernel) (by decide +kernel)
  | 7, _ => exact gt_at 112 (by decide +kernel) (by decide +kernel)
  | 8, _ => exact gt_at 114 (by decide +kernel) (by decide +kernel)
  | k + 9, hk => exact absurd hk (by omega)
set_option maxRecDepth 100000 in
theorem in_Wo : ∀ w ∈ u_ws R_Wo T_Wo 11, w ∈ gt := by
  intro w hw
  obtain ⟨k, hk, rfl⟩ := List.mem_map.mp hw
  have hk := List.mem_range.mp hk
  match k, hk with
  | 0, _ => exact gt_at 144 (by decide +kernel) (by decide +kernel)
  | 1, _ => exact gt_at 146 (by decide +kernel) (by decide +kernel)
  | 2, _ => exact gt_at 148 (by decide +kernel) (by decide +kernel)
  | 3, _ => exact gt_at 150 (by decide +kernel) (by decide +kernel)
  | 4, _ => exact gt_at 152 (by decide +kernel) (by decide +kernel)
  | 5, _ => exact gt_at 154 (by decide +kernel) (by decide +kernel)
  | 6, _ => exact gt_at 156 (by decide +kernel) (by decide +kernel)
  | 7, _ => exact gt_at 158 (by decide +kernel) (by decide +kernel)
  | 8, _ => exact gt_at 160 (by decide +kernel) (by decide +kernel)
  | 9, _ => exact gt_at 162 (by decide +kernel) (by decide +kernel)
  | 10, _ => exact gt_at 164 (by decide +kernel) (by decide +kernel)
  | k + 11, hk => exact absurd hk (by omega)
set_option maxRecDepth 100000 in
theorem in_Mo : ∀ w ∈ u_ws R_Mo T_Mo 23, w ∈ gt := by
  intro w hw
  obtain ⟨k, hk, rfl⟩ := List.mem_map.mp hw
  have hk := List.mem_range.mp hk
  match k, hk with
  | 0, _ => exact gt_at 604 (by decide +kernel) (by decide +kernel)
  | 1, _ => exact gt_at 606 (by decide +kernel) (by decide +kernel)
  | 2, _ => exact gt_at 608 (by decide +kernel) (by decide +kernel)
  | 3, _ => exact gt_at 610 (by decide +kernel) (by decide +kernel)
  | 4, _ => exact gt_at 612 (by decide +kernel) (by decide +kernel)
  | 5, _ => exact gt_at 614 (by decide +kernel) (by decide +kernel)
  | 6, _ => exact gt_at 616 (by decide +kernel) (by decide +kernel)
  | 7, _ => exact gt_at 618 (by decide +kernel) (by decide +kernel)
  | 8, _ => exact gt_at 620 (by decide +kernel) (by decide +kernel)
  | 9, _ => exact gt_at 622 (by decide +kernel) (by decide +kernel)
  | 10, _ => exact gt_at 624 (by decide +kernel) (by decide +kernel)
  | 11, _ => exact gt_at 626 (by decide +kernel) (by decide +kernel)
  | 12, _ => exact gt_at 628 (by decide +kernel) (by decide +kernel)
  | 13, _ => exact gt_at 630 (by decide +kernel) (by decide +kernel)
  | 14, _ => exact gt_at 632 (by decide +kernel) (by decide +kernel)
  | 15, _ => exact gt_at 634 (by decide +kernel) (by decide +kernel)
  | 16, _ => exact gt_at 636 (by decide +kernel) (by decide +kernel)
  | 17, _ => exact gt_at 638 (by decide +kernel) (by decide +kernel)
  | 18, _ => exact gt_at 640 (by decide +kernel) (by decide +kernel)
  | 19, _ => exact gt_at 642 (by decide +kernel) (by decide +kernel)
  | 20, _ => exact gt_at 644 (by decide +kernel) (by decide +kernel)
  | 21, _ => exact gt_at 646 (by decide +kernel) (by decide +kernel)
  | 22, _ => exact gt_at 648 (by decide +kernel) (by decide +kernel)
  | k + 23, hk => exact absurd hk (by omega)
def y_CY_init : MethodName := ⟨R_CY, "<init>", "(I)V"⟩
abbrev c_CY_init : ByteArray := prog_1_method_1_code
abbrev w_CY_init : Cond := .code y_CY_init c_CY_init 2 none
set_option maxRecDepth 100000 in
theorem kc_CY_init : w_CY_init ∈ gt := gt_at 42 rfl (by decide +kernel)
def y_CY_index : MethodName := ⟨R_CY, "index", "(II)I"⟩
abbrev c_CY_index : ByteArray := prog_1_method_2_code
abbrev w_CY_index : Cond := .code y_CY_index c_CY_index 4 (some .int)
set_option maxRecDepth 100000 in
theorem kc_CY_index : w_CY_index ∈ gt := gt_at 304 rfl (by decide +kernel)
def y_CY_budget : MethodName := ⟨R_CY, "budget", "(II)I"⟩
abbrev c_CY_budget : ByteArray := prog_1_method_3_code
abbrev w_CY_budget : Cond := .code y_CY_budget c_CY_budget 4 (some .int)
set_option maxRecDepth 100000 in
theorem kc_CY_budget : w_CY_budget ∈ gt := gt_at 388 rfl (by decide +kernel)
def y_CY_part : MethodName := ⟨R_CY, "part", "(II)I"⟩
abbrev c_CY_part : ByteArray := prog_1_method_4_code
abbrev w_CY_part : Cond := .code y_CY_part c_CY_part 3 (some .int)
set_option maxRecDepth 100000 in
theorem kc_CY_part : w_CY_part ∈ gt := gt_at 397 rfl (by decide +kernel)
def y_CY_moves : MethodName := ⟨R_CY, "moves", "(IIII)I"⟩
abbrev c_CY_moves : ByteArray := prog_1_method_5_code
abbrev w_CY_moves : Cond := .code y_CY_moves c_CY_moves 7 (some .int)
set_option maxRecDepth 100000 in
theorem kc_CY_moves : w_CY_moves ∈ gt := gt_at 431 rfl (by decide +kernel)
def y_CY_care : MethodName := ⟨R_CY, "care", "(III)I"⟩
abbrev c_CY_care : ByteArray := prog_1_method_6_code
abbrev w_CY_care : Cond := .code y_CY_care c_CY_care 5 (some .int)
set_option maxRecDepth 100000 in
theorem kc_CY_care : w_CY_care ∈ gt := gt_at 448 rfl (by decide +kernel)
def y_CY_share : MethodName := ⟨R_CY, "share", "(III)J"⟩
abbrev c_CY_share : ByteArray := prog_1_method_7_code
abbrev w_CY_share : Cond := .code y_CY_share c_CY_share 4 (some .long)
set_option maxRecDepth 100000 in
theorem kc_CY_share : w_CY_share ∈ gt := gt_at 455 rfl (by decide +kernel)
def y_CY_cares : MethodName := ⟨R_CY, "cares", "(II)I"⟩
abbrev c_CY_cares : ByteArray := prog_1_method_8_code
abbrev w_CY_cares : Cond := .code y_CY_cares c_CY_cares 3 (some .int)
set_option maxRecDepth 100000 in
theorem kc_CY_cares : w_CY_cares ∈ gt := gt_at 467 rfl (by decide +kernel)
def y_CY_most : MethodName := ⟨R_CY, "most", "(II)I"⟩
abbrev c_CY_most : ByteArray := prog_1_method_9_code
abbrev w_CY_most : Cond := .code y_CY_most c_CY_most 3 (some .int)
set_option maxRecDepth 100000 in
theorem kc_CY_most : w_CY_most ∈ gt := gt_at 475 rfl (by decide +kernel)
def y_CY_work : MethodName := ⟨R_CY, "work", "(IIII)I"⟩
abbrev c_CY_work : ByteArray := prog_1_method_10_code
abbrev w_CY_work : Cond := .code y_CY_work c_CY_work 5 (some .int)
set_option maxRecDepth 100000 in
theorem kc_CY_work : w_CY_work ∈ gt := gt_at 486 rfl (by decide +kernel)
def y_CY_join : MethodName := ⟨R_CY, "join", "(III)I"⟩
abbrev c_CY_join : ByteArray := prog_1_method_11_code
abbrev w_CY_join : Cond := .code y_CY_join c_CY_join 5 (some .int)
set_option maxRecDepth 100000 in
theorem kc_CY_join : w_CY_join ∈ gt := gt_at 498 rfl (by decide +kernel)
def y_CY_clash : MethodName := ⟨R_CY, "clash", "(IIZ)Z"⟩
abbrev c_CY_clash : ByteArray := prog_1_method_12_code
abbrev w_CY_clash : Cond := .code y_CY_clash c_CY_clash 5 (some .boolean)
set_option maxRecDepth 100000 in
theorem kc_CY_clash : w_CY_clash ∈ gt := gt_at 509 rfl (by decide +kernel)
def y_CY_needs : MethodName := ⟨R_CY, "needs", "(II)I"⟩
abbrev c_CY_needs : ByteArray := prog_1_method_13_code
abbrev w_CY_needs : Cond := .code y_CY_needs c_CY_needs 4 (some .int)
set_option maxRecDepth 100000 in
theorem kc_CY_needs : w_CY_needs ∈ gt := gt_at 516 rfl (by decide +kernel)
def y_CY_choose : MethodName := ⟨R_CY, "choose", "()I"⟩
abbrev c_CY_choose : ByteArray := prog_1_method_14_code
abbrev w_CY_choose : Cond := .code y_CY_choose c_CY_choose 1 (some .int)
set_option maxRecDepth 100000 in
theorem kc_CY_choose : w_CY_choose ∈ gt := gt_at 189 rfl (by decide +kernel)
def y_CY_chosen : MethodName := ⟨R_CY, "chosen", "(I)Z"⟩
abbrev c_CY_chosen : ByteArray := prog_1_method_15_code
abbrev w_CY_chosen : Cond := .code y_CY_chosen c_CY_chosen 2 (some .boolean)
set_option maxRecDepth 100000 in
theorem kc_CY_chosen : w_CY_chosen ∈ gt := gt_at 523 rfl (by decide +kernel)
def y_CY_costs : MethodName := ⟨R_CY, "costs", "(I)I"⟩
abbrev c_CY_costs : ByteArray := prog_1_method_16_code
abbrev w_CY_costs : Cond := .code y_CY_costs c_CY_costs 2 (some .int)
set_option maxRecDepth 100000 in
theorem kc_CY_costs : w_CY_costs ∈ gt := gt_at 530 rfl (by decide +kernel)
def y_CY_lacks : MethodName := ⟨R_CY, "lacks", "(I)I"⟩
abbrev c_CY_lacks : ByteArray := prog_1_method_17_code
abbrev w_CY_lacks : Cond := .code y_CY_lacks c_CY_lacks 3 (some .int)
set_option maxRecDepth 100000 in
theorem kc_CY_lacks : w_CY_lacks ∈ gt := gt_at 249 rfl (by decide +kernel)
def y_CY_money : MethodName := ⟨R_CY, "money", "(II)V"⟩
abbrev c_CY_money : ByteArray := prog_1_method_18_code
abbrev w_CY_money : Cond := .code y_CY_money c_CY_money 3 none
set_option maxRecDepth 100000 in
theorem kc_CY_money : w_CY_money ∈ gt := gt_at 537 rfl (by decide +kernel)
def y_CY_reserve : MethodName := ⟨R_CY, "reserve", "(I)J"⟩
abbrev c_CY_reserve : ByteArray := prog_1_method_19_code
abbrev w_CY_reserve : Cond := .code y_CY_reserve c_CY_reserve 2 (some .long)
set_option maxRecDepth 100000 in
theorem kc_CY_reserve : w_CY_reserve ∈ gt := gt_at 544 rfl (by decide +kernel)
def y_CY_shortIn : MethodName := ⟨R_CY, "shortIn", "()I"⟩
abbrev c_CY_shortIn : ByteArray := prog_1_method_20_code
abbrev w_CY_shortIn : Cond := .code y_CY_shortIn c_CY_shortIn 2 (some .int)
set_option maxRecDepth 100000 in
theorem kc_CY_shortIn : w_CY_shortIn ∈ gt := gt_at 257 rfl (by decide +kernel)
def y_CY_payment : MethodName := ⟨R_CY, "payment", "(III)I"⟩
abbrev c_CY_payment : ByteArray := prog_1_method_21_code
abbrev w_CY_payment : Cond := .code y_CY_payment c_CY_payment 4 (some .int)
set_option maxRecDepth 100000 in
theorem kc_CY_payment : w_CY_payment ∈ gt := gt_at 551 rfl (by decide +kernel)
def y_CY_rest : MethodName := ⟨R_CY, "rest", "(IIII)I"⟩
abbrev c_CY_rest : ByteArray := prog_1_method_22_code
abbrev w_CY_rest : Cond := .code y_CY_rest c_CY_rest 5 (some .int)
set_option maxRecDepth 100000 in
theorem kc_CY_rest : w_CY_rest ∈ gt := gt_at 573 rfl (by decide +kernel)
def y_CY_refuseUnless : MethodName := ⟨R_CY, "refuseUnless", "(Z)V"⟩
abbrev c_CY_refuseUnless : ByteArray := prog_1_method_23_code
abbrev w_CY_refuseUnless : Cond := .code y_CY_refuseUnless c_CY_refuseUnless 1 none
set_option maxRecDepth 100000 in
theorem kc_CY_refuseUnless : w_CY_refuseUnless ∈ gt := gt_at 314 rfl (by decide +kernel)
def y_CY_refuseIfFull : MethodName := ⟨R_CY, "refuseIfFull", "(Z)V"⟩
abbrev c_CY_refuseIfFull : ByteArray := prog_1_method_24_code
abbrev w_CY_refuseIfFull : Cond := .code y_CY_refuseIfFull c_CY_refuseIfFull 1 none
set_option maxRecDepth 100000 in
theorem kc_CY_refuseIfFull : w_CY_refuseIfFull ∈ gt := gt_at 400 rfl (by decide +kernel)
def y_CY_isWithin : MethodName := ⟨R_CY, "isWithin", "(III)Z"⟩
abbrev c_CY_isWithin : ByteArray := prog_1_method_25_code
abbrev w_CY_isWithin : Cond := .code y_CY_isWithin c_CY_isWithin 3 (some .boolean)
set_option maxRecDepth 100000 in
theorem kc_CY_isWithin : w_CY_isWithin ∈ gt := gt_at 311 rfl (by decide +kernel)
def y_CY_holds : MethodName := ⟨R_CY, "holds", "(II)Z"⟩
abbrev c_CY_holds : ByteArray := prog_1_method_26_code
abbrev w_CY_holds : Cond := .code y_CY_holds c_CY_holds 2 (some .boolean)
set_option maxRecDepth 100000 in
theorem kc_CY_holds : w_CY_holds ∈ gt := gt_at 204 rfl (by decide +kernel)
def y_CY_withBit : MethodName := ⟨R_CY, "withBit", "(IIZ)I"⟩
abbrev c_CY_withBit : ByteArray := prog_1_method_27_code
abbrev w_CY_withBit : Cond := .code y_CY_withBit c_CY_withBit 3 (some .int)
set_option maxRecDepth 100000 in
theorem kc_CY_withBit : w_CY_withBit ∈ gt := gt_at 244 rfl (by decide +kernel)
def y_CY_renewParts : MethodName := ⟨R_CY, "renewParts", "()V"⟩
abbrev c_CY_renewParts : ByteArray := prog_1_method_28_code
abbrev w_CY_renewParts : Cond := .code y_CY_renewParts c_CY_renewParts 3 none
set_option maxRecDepth 100000 in
theorem kc_CY_renewParts : w_CY_renewParts ∈ gt := gt_at 239 rfl (by decide +kernel)
def y_CY_reckonReserves : MethodName := ⟨R_CY, "reckonReserves", "()V"⟩
abbrev c_CY_reckonReserves : ByteArray := prog_1_method_29_code
abbrev w_CY_reckonReserves : Cond := .code y_CY_reckonReserves c_CY_reckonReserves 4 none
set_option maxRecDepth 100000 in
theorem kc_CY_reckonReserves : w_CY_reckonReserves ∈ gt := gt_at 261 rfl (by decide +kernel)
def y_CY_takeCareFromReserves : MethodName := ⟨R_CY, "takeCareFromReserves", "(I)V"⟩
abbrev c_CY_takeCareFromReserves : ByteArray := prog_1_method_30_code
abbrev w_CY_takeCareFromReserves : Cond := .code y_CY_takeCareFromReserves c_CY_takeCareFromReserves 3 none
set_option maxRecDepth 100000 in
theorem kc_CY_takeCareFromReserves : w_CY_takeCareFromReserves ∈ gt := gt_at 265 rfl (by decide +kernel)
def y_Mo_init : MethodName := ⟨R_Mo, "<init>", "(I)V"⟩
abbrev c_Mo_init : ByteArray := prog_7_method_1_code
abbrev w_Mo_init : Cond := .code y_Mo_init c_Mo_init 3 none
set_option maxRecDepth 100000 in
theorem kc_Mo_init : w_Mo_init ∈ gt := gt_at 579 rfl (by decide +kernel)
def y_Mo_thrown : MethodName := ⟨R_Mo, "thrown", "()I"⟩
abbrev c_Mo_thrown : ByteArray := prog_7_method_2_code
abbrev w_Mo_thrown : Cond := .code y_Mo_thrown c_Mo_thrown 1 (some .int)
set_option maxRecDepth 100000 in
theorem kc_Mo_thrown : w_Mo_thrown ∈ gt := gt_at 655 rfl (by decide +kernel)
def y_Mo_refuses : MethodName := ⟨R_Mo, "refuses", "(I)Z"⟩
abbrev c_Mo_refuses : ByteArray := prog_7_method_3_code
abbrev w_Mo_refuses : Cond := .code y_Mo_refuses c_Mo_refuses 2 (some .boolean)
set_option maxRecDepth 100000 in
theorem kc_Mo_refuses : w_Mo_refuses ∈ gt := gt_at 672 rfl (by decide +kernel)
def y_Mo_within : MethodName := ⟨R_Mo, "within", "(JJJ)Z"⟩
abbrev c_Mo_within : ByteArray := prog_7_method_4_code
abbrev w_Mo_within : Cond := .code y_Mo_within c_Mo_within 6 (some .boolean)
set_option maxRecDepth 100000 in
theorem kc_Mo_within : w_Mo_within ∈ gt := gt_at 666 rfl (by decide +kernel)
def y_Mo_isYear : MethodName := ⟨R_Mo, "isYear", "(I)Z"⟩
abbrev c_Mo_isYear : ByteArray := prog_7_method_5_code
abbrev w_Mo_isYear : Cond := .code y_Mo_isYear c_Mo_isYear 2 (some .boolean)
set_option maxRecDepth 100000 in
theorem kc_Mo_isYear : w_Mo_isYear ∈ gt := gt_at 663 rfl (by decide +kernel)
def y_Mo_isPart : MethodName := ⟨R_Mo, "isPart", "(I)Z"⟩
abbrev c_Mo_isPart : ByteArray := prog_7_method_6_code
abbrev w_Mo_isPart : Cond := .code y_Mo_isPart c_Mo_isPart 2 (some .boolean)
set_option maxRecDepth 100000 in
theorem kc_Mo_isPart : w_Mo_isPart ∈ gt := gt_at 695 rfl (by decide +kernel)
def y_Mo_isState : MethodName := ⟨R_Mo, "isState", "(II)Z"⟩
abbrev c_Mo_isState : ByteArray := prog_7_method_7_code
abbrev w_Mo_isState : Cond := .code y_Mo_isState c_Mo_isState 3 (some .boolean)
set_option maxRecDepth 100000 in
theorem kc_Mo_isState : w_Mo_isState ∈ gt := gt_at 691 rfl (by decide +kernel)
def y_Mo_isWork : MethodName := ⟨R_Mo, "isWork", "(I)Z"⟩
abbrev c_Mo_isWork : ByteArray := prog_7_method_8_code
abbrev w_Mo_isWork : Cond := .code y_Mo_isWork c_Mo_isWork 2 (some .boolean)
set_option maxRecDepth 100000 in
theorem kc_Mo_isWork : w_Mo_isWork ∈ gt := gt_at 746 rfl (by decide +kernel)
def y_Mo_index : MethodName := ⟨R_Mo, "index", "(II)I"⟩
abbrev c_Mo_index : ByteArray := prog_7_method_9_code
abbrev w_Mo_index : Cond := .code y_Mo_index c_Mo_index 4 (some .int)
set_option maxRecDepth 100000 in
theorem kc_Mo_index : w_Mo_index ∈ gt := gt_at 659 rfl (by decide +kernel)
def y_Mo_budget : MethodName := ⟨R_Mo, "budget", "(II)I"⟩
abbrev c_Mo_budget : ByteArray := prog_7_method_10_code
abbrev w_Mo_budget : Cond := .code y_Mo_budget c_Mo_budget 4 (some .int)
set_option maxRecDepth 100000 in
theorem kc_Mo_budget : w_Mo_budget ∈ gt := gt_at 676 rfl (by decide +kernel)
def y_Mo_part : MethodName := ⟨R_Mo, "part", "(II)I"⟩
abbrev c_Mo_part : ByteArray := prog_7_method_11_code
abbrev w_Mo_part : Cond := .code y_Mo_part c_Mo_part 4 (some .int)
set_option maxRecDepth 100000 in
theorem kc_Mo_part : w_Mo_part ∈ gt := gt_at 681 rfl (by decide +kernel)
def y_Mo_leaving : MethodName := ⟨R_Mo, "leaving", "(II)I"⟩
abbrev c_Mo_leaving : ByteArray := prog_7_method_12_code
abbrev w_Mo_leaving : Cond := .code y_Mo_leaving c_Mo_leaving 5 (some .int)
set_option maxRecDepth 100000 in
theorem kc_Mo_leaving : w_Mo_leaving ∈ gt := gt_at 700 rfl (by decide +kernel)
def y_Mo_moves : MethodName := ⟨R_Mo, "moves", "(IIII)I"⟩
abbrev c_Mo_moves : ByteArray := prog_7_method_13_code
abbrev w_Mo_moves : Cond := .code y_Mo_moves c_Mo_moves 7 (some .int)
set_option maxRecDepth 100000 in
theorem kc_Mo_moves : w_Mo_moves ∈ gt := gt_at 687 rfl (by decide +kernel)
def y_Mo_care : MethodName := ⟨R_Mo, "care", "(III)I"⟩
abbrev c_Mo_care : ByteArray := prog_7_method_14_code
abbrev w_Mo_care : Cond := .code y_Mo_care c_Mo_care 5 (some .int)
set_option maxRecDepth 100000 in
theorem kc_Mo_care : w_Mo_care ∈ gt := gt_at 704 rfl (by decide +kernel)
def y_Mo_begins : MethodName := ⟨R_Mo, "begins", "(II)I"⟩
abbrev c_Mo_begins : ByteArray := prog_7_method_15_code
abbrev w_Mo_begins : Cond := .code y_Mo_begins c_Mo_begins 6 (some .int)
set_option maxRecDepth 100000 in
theorem kc_Mo_begins : w_Mo_begins ∈ gt := gt_at 717 rfl (by decide +kernel)
def y_Mo_learn : MethodName := ⟨R_Mo, "learn", "(II)J"⟩
abbrev c_Mo_learn : ByteArray := prog_7_method_16_code
abbrev w_Mo_learn : Cond := .code y_Mo_learn c_Mo_learn 8 (some .long)
set_option maxRecDepth 100000 in
theorem kc_Mo_learn : w_Mo_learn ∈ gt := gt_at 713 rfl (by decide +kernel)
def y_Mo_share : MethodName := ⟨R_Mo, "share", "(III)J"⟩
abbrev c_Mo_share : ByteArray := prog_7_method_17_code
abbrev w_Mo_share : Cond := .code y_Mo_share c_Mo_share 6 (some .long)
set_option maxRecDepth 100000 in
theorem kc_Mo_share : w_Mo_share ∈ gt := gt_at 709 rfl (by decide +kernel)
def y_Mo_careOf : MethodName := ⟨R_Mo, "careOf", "(II)J"⟩
abbrev c_Mo_careOf : ByteArray := prog_7_method_18_code
abbrev w_Mo_careOf : Cond := .code y_Mo_careOf c_Mo_careOf 8 (some .long)
set_option maxRecDepth 100000 in
theorem kc_Mo_careOf : w_Mo_careOf ∈ gt := gt_at 725 rfl (by decide +kernel)
def y_Mo_cares : MethodName := ⟨R_Mo, "cares", "(II)I"⟩
abbrev c_Mo_cares : ByteArray := prog_7_method_19_code
abbrev w_Mo_cares : Cond := .code y_Mo_cares c_Mo_cares 3 (some .int)
set_option maxRecDepth 100000 in
theorem kc_Mo_cares : w_Mo_cares ∈ gt := gt_at 721 rfl (by decide +kernel)
def y_Mo_most : MethodName := ⟨R_Mo, "most", "(II)I"⟩
abbrev c_Mo_most : ByteArray := prog_7_method_20_code
abbrev w_Mo_most : Cond := .code y_Mo_most c_Mo_most 7 (some .int)
set_option maxRecDepth 100000 in
theorem kc_Mo_most : w_Mo_most ∈ gt := gt_at 729 rfl (by decide +kernel)
def y_Mo_work : MethodName := ⟨R_Mo, "work", "(IIII)I"⟩
abbrev c_Mo_work : ByteArray := prog_7_method_21_code
abbrev w_Mo_work : Cond := .code y_Mo_work c_Mo_work 6 (some .int)
set_option maxRecDepth 100000 in
theorem kc_Mo_work : w_Mo_work ∈ gt := gt_at 733 rfl (by decide +kernel)
def y_Mo_areTwo : MethodName := ⟨R_Mo, "areTwo", "(II)Z"⟩
abbrev c_Mo_areTwo : ByteArray := prog_7_method_22_code
abbrev w_Mo_areTwo : Cond := .code y_Mo_areTwo c_Mo_areTwo 3 (some .boolean)
set_option maxRecDepth 100000 in
theorem kc_Mo_areTwo : w_Mo_areTwo ∈ gt := gt_at 742 rfl (by decide +kernel)
def y_Mo_join : MethodName := ⟨R_Mo, "join", "(III)I"⟩
abbrev c_Mo_join : ByteArray := prog_7_method_23_code
abbrev w_Mo_join : Cond := .code y_Mo_join c_Mo_join 5 (some .int)
set_option maxRecDepth 100000 in
theorem kc_Mo_join : w_Mo_join ∈ gt := gt_at 738 rfl (by decide +kernel)
def y_Mo_clash : MethodName := ⟨R_Mo, "clash", "(IIZ)Z"⟩
abbrev c_Mo_clash : ByteArray := prog_7_method_24_code
abbrev w_Mo_clash : Cond := .code y_Mo_clash c_Mo_clash 5 (some .boolean)
set_option maxRecDepth 100000 in
theorem kc_Mo_clash : w_Mo_clash ∈ gt := gt_at 750 rfl (by decide +kernel)
def y_Mo_needs : MethodName := ⟨R_Mo, "needs", "(II)I"⟩
abbrev c_Mo_needs : ByteArray := prog_7_method_25_code
abbrev w_Mo_needs : Cond := .code y_Mo_needs c_Mo_needs 4 (some .int)
set_option maxRecDepth 100000 in
theorem kc_Mo_needs : w_Mo_needs ∈ gt := gt_at 754 rfl (by decide +kernel)
def y_Mo_has : MethodName := ⟨R_Mo, "has", "(II)Z"⟩
abbrev c_Mo_has : ByteArray := prog_7_method_26_code
abbrev w_Mo_has : Cond := .code y_Mo_has c_Mo_has 2 (some .boolean)
set_option maxRecDepth 100000 in
theorem kc_Mo_has : w_Mo_has ∈ gt := gt_at 761 rfl (by decide +kernel)
def y_Mo_goesTogether : MethodName := ⟨R_Mo, "goesTogether", "(I)Z"⟩
abbrev c_Mo_goesTogether : ByteArray := prog_7_method_27_code
abbrev w_Mo_goesTogether : Cond := .code y_Mo_goesTogether c_Mo_goesTogether 5 (some .boolean)
set_option maxRecDepth 100000 in
theorem kc_Mo_goesTogether : w_Mo_goesTogether ∈ gt := gt_at 765 rfl (by decide +kernel)
def y_Mo_costOf : MethodName := ⟨R_Mo, "costOf", "(II)J"⟩
abbrev c_Mo_costOf : ByteArray := prog_7_method_28_code
abbrev w_Mo_costOf : Cond := .code y_Mo_costOf c_Mo_costOf 7 (some .long)
set_option maxRecDepth 100000 in
theorem kc_Mo_costOf : w_Mo_costOf ∈ gt := gt_at 773 rfl (by decide +kernel)
def y_Mo_lackOf : MethodName := ⟨R_Mo, "lackOf", "(I)J"⟩
abbrev c_Mo_lackOf : ByteArray := prog_7_method_29_code
abbrev w_Mo_lackOf : Cond := .code y_Mo_lackOf c_Mo_lackOf 7 (some .long)
set_option maxRecDepth 100000 in
theorem kc_Mo_lackOf : w_Mo_lackOf ∈ gt := gt_at 769 rfl (by decide +kernel)
def y_Mo_choose : MethodName := ⟨R_Mo, "choose", "()I"⟩
abbrev c_Mo_choose : ByteArray := prog_7_method_30_code
abbrev w_Mo_choose : Cond := .code y_Mo_choose c_Mo_choose 8 (some .int)
set_option maxRecDepth 100000 in
theorem kc_Mo_choose : w_Mo_choose ∈ gt := gt_at 758 rfl (by decide +kernel)
def y_Mo_chosen : MethodName := ⟨R_Mo, "chosen", "(I)Z"⟩
abbrev c_Mo_chosen : ByteArray := prog_7_method_31_code
abbrev w_Mo_chosen : Cond := .code y_Mo_chosen c_Mo_chosen 2 (some .boolean)
set_option maxRecDepth 100000 in
theorem kc_Mo_chosen : w_Mo_chosen ∈ gt := gt_at 777 rfl (by decide +kernel)
def y_Mo_costs : MethodName := ⟨R_Mo, "costs", "(I)I"⟩
abbrev c_Mo_costs : ByteArray := prog_7_method_32_code
abbrev w_Mo_costs : Cond := .code y_Mo_costs c_Mo_costs 2 (some .int)
set_option maxRecDepth 100000 in
theorem kc_Mo_costs : w_Mo_costs ∈ gt := gt_at 781 rfl (by decide +kernel)
def y_Mo_lacks : MethodName := ⟨R_Mo, "lacks", "(I)I"⟩
abbrev c_Mo_lacks : ByteArray := prog_7_method_33_code
abbrev w_Mo_lacks : Cond := .code y_Mo_lacks c_Mo_lacks 3 (some .int)
set_option maxRecDepth 100000 in
theorem kc_Mo_lacks : w_Mo_lacks ∈ gt := gt_at 785 rfl (by decide +kernel)
def y_Mo_money : MethodName := ⟨R_Mo, "money", "(II)V"⟩
abbrev c_Mo_money : ByteArray := prog_7_method_34_code
abbrev w_Mo_money : Cond := .code y_Mo_money c_Mo_money 3 none
set_option maxRecDepth 100000 in
theorem kc_Mo_money : w_Mo_money ∈ gt := gt_at 789 rfl (by decide +kernel)
def y_Mo_reserveOf : MethodName := ⟨R_Mo, "reserveOf", "(I)J"⟩
abbrev c_Mo_reserveOf : ByteArray := prog_7_method_35_code
abbrev w_Mo_reserveOf : Cond := .code y_Mo_reserveOf c_Mo_reserveOf 6 (some .long)
set_option maxRecDepth 100000 in
theorem kc_Mo_reserveOf : w_Mo_reserveOf ∈ gt := gt_at 797 rfl (by decide +kernel)
def y_Mo_reserve : MethodName := ⟨R_Mo, "reserve", "(I)J"⟩
abbrev c_Mo_reserve : ByteArray := prog_7_method_36_code
abbrev w_Mo_reserve : Cond := .code y_Mo_reserve c_Mo_reserve 2 (some .long)
set_option maxRecDepth 100000 in
theorem kc_Mo_reserve : w_Mo_reserve ∈ gt := gt_at 793 rfl (by decide +kernel)
def y_Mo_shortIn : MethodName := ⟨R_Mo, "shortIn", "()I"⟩
abbrev c_Mo_shortIn : ByteArray := prog_7_method_37_code
abbrev w_Mo_shortIn : Cond := .code y_Mo_shortIn c_Mo_shortIn 2 (some .int)
set_option maxRecDepth 100000 in
theorem kc_Mo_shortIn : w_Mo_shortIn ∈ gt := gt_at 801 rfl (by decide +kernel)
def y_Mo_restOf : MethodName := ⟨R_Mo, "restOf", "(JIIJ)J"⟩
abbrev c_Mo_restOf : ByteArray := prog_7_method_38_code
abbrev w_Mo_restOf : Cond := .code y_Mo_restOf c_Mo_restOf 9 (some .long)
set_option maxRecDepth 100000 in
theorem kc_Mo_restOf : w_Mo_restOf ∈ gt := gt_at 816 rfl (by decide +kernel)
def y_Mo_paymentOf : MethodName := ⟨R_Mo, "paymentOf", "(III)J"⟩
abbrev c_Mo_paymentOf : ByteArray := prog_7_method_39_code
abbrev w_Mo_paymentOf : Cond := .code y_Mo_paymentOf c_Mo_paymentOf 10 (some .long)
set_option maxRecDepth 100000 in
theorem kc_Mo_paymentOf : w_Mo_paymentOf ∈ gt := gt_at 812 rfl (by decide +kernel)
def y_Mo_isLoan : MethodName := ⟨R_Mo, "isLoan", "(III)Z"⟩
abbrev c_Mo_isLoan : ByteArray := prog_7_method_40_code
abbrev w_Mo_isLoan : Cond := .code y_Mo_isLoan c_Mo_isLoan 3 (some .boolean)
set_option maxRecDepth 100000 in
theorem kc_Mo_isLoan : w_Mo_isLoan ∈ gt := gt_at 808 rfl (by decide +kernel)
def y_Mo_payment : MethodName := ⟨R_Mo, "payment", "(III)I"⟩
abbrev c_Mo_payment : ByteArray := prog_7_method_41_code
abbrev w_Mo_payment : Cond := .code y_Mo_payment c_Mo_payment 4 (some .int)
set_option maxRecDepth 100000 in
theorem kc_Mo_payment : w_Mo_payment ∈ gt := gt_at 805 rfl (by decide +kernel)
def y_Mo_rest : MethodName := ⟨R_Mo, "rest", "(IIII)I"⟩
abbrev c_Mo_rest : ByteArray := prog_7_method_42_code
abbrev w_Mo_rest : Cond := .code y_Mo_rest c_Mo_rest 5 (some .int)
set_option maxRecDepth 100000 in
theorem kc_Mo_rest : w_Mo_rest ∈ gt := gt_at 822 rfl (by decide +kernel)
def y_Lo_isOne : MethodName := ⟨R_Lo, "isOne", "(III)Z"⟩
abbrev c_Lo_isOne : ByteArray := prog_2_method_2_code
abbrev w_Lo_isOne : Cond := .code y_Lo_isOne c_Lo_isOne 3 (some .boolean)
set_option maxRecDepth 100000 in
theorem kc_Lo_isOne : w_Lo_isOne ∈ gt := gt_at 554 rfl (by decide +kernel)
def y_Lo_restBehind : MethodName := ⟨R_Lo, "restBehind", "(IIIJ)J"⟩
abbrev c_Lo_restBehind : ByteArray := prog_2_method_3_code
abbrev w_Lo_restBehind : Cond := .code y_Lo_restBehind c_Lo_restBehind 10 (some .long)
set_option maxRecDepth 100000 in
theorem kc_Lo_restBehind : w_Lo_restBehind ∈ gt := gt_at 562 rfl (by decide +kernel)
def y_Lo_leastPayment : MethodName := ⟨R_Lo, "leastPayment", "(III)I"⟩
abbrev c_Lo_leastPayment : ByteArray := prog_2_method_4_code
abbrev w_Lo_leastPayment : Cond := .code y_Lo_leastPayment c_Lo_leastPayment 8 (some .int)
set_option maxRecDepth 100000 in
theorem kc_Lo_leastPayment : w_Lo_leastPayment ∈ gt := gt_at 559 rfl (by decide +kernel)
def y_Pa_init : MethodName := ⟨R_Pa, "<init>", "()V"⟩
abbrev c_Pa_init : ByteArray := prog_3_method_1_code
abbrev w_Pa_init : Cond := .code y_Pa_init c_Pa_init 1 none
set_option maxRecDepth 100000 in
theorem kc_Pa_init : w_Pa_init ∈ gt := gt_at 81 rfl (by decide +kernel)
def y_Pa_has : MethodName := ⟨R_Pa, "has", "(I)Z"⟩
abbrev c_Pa_has : ByteArray := prog_3_method_2_code
abbrev w_Pa_has : Cond := .code y_Pa_has c_Pa_has 2 (some .boolean)
set_option maxRecDepth 100000 in
theorem kc_Pa_has : w_Pa_has ∈ gt := gt_at 439 rfl (by decide +kernel)
def y_Pa_hasState : MethodName := ⟨R_Pa, "hasState", "(II)Z"⟩
abbrev c_Pa_hasState : ByteArray := prog_3_method_3_code
abbrev w_Pa_hasState : Cond := .code y_Pa_hasState c_Pa_hasState 3 (some .boolean)
set_option maxRecDepth 100000 in
theorem kc_Pa_hasState : w_Pa_hasState ∈ gt := gt_at 435 rfl (by decide +kernel)
def y_Pa_add : MethodName := ⟨R_Pa, "add", "(II)I"⟩
abbrev c_Pa_add : ByteArray := prog_3_method_4_code
abbrev w_Pa_add : Cond := .code y_Pa_add c_Pa_add 5 (some .int)
set_option maxRecDepth 100000 in
theorem kc_Pa_add : w_Pa_add ∈ gt := gt_at 420 rfl (by decide +kernel)
def y_Pa_going : MethodName := ⟨R_Pa, "going", "(III)I"⟩
abbrev c_Pa_going : ByteArray := prog_3_method_5_code
abbrev w_Pa_going : Cond := .code y_Pa_going c_Pa_going 4 (some .int)
set_option maxRecDepth 100000 in
theorem kc_Pa_going : w_Pa_going ∈ gt := gt_at 285 rfl (by decide +kernel)
def y_Pa_setGoing : MethodName := ⟨R_Pa, "setGoing", "(IIII)V"⟩
abbrev c_Pa_setGoing : ByteArray := prog_3_method_6_code
abbrev w_Pa_setGoing : Cond := .code y_Pa_setGoing c_Pa_setGoing 5 none
set_option maxRecDepth 100000 in
theorem kc_Pa_setGoing : w_Pa_setGoing ∈ gt := gt_at 424 rfl (by decide +kernel)
def y_Pa_goTo : MethodName := ⟨R_Pa, "goTo", "(II)V"⟩
abbrev c_Pa_goTo : ByteArray := prog_3_method_7_code
abbrev w_Pa_goTo : Cond := .code y_Pa_goTo c_Pa_goTo 4 none
set_option maxRecDepth 100000 in
theorem kc_Pa_goTo : w_Pa_goTo ∈ gt := gt_at 459 rfl (by decide +kernel)
def y_Pa_enter : MethodName := ⟨R_Pa, "enter", "(II)V"⟩
abbrev c_Pa_enter : ByteArray := prog_3_method_8_code
abbrev w_Pa_enter : Cond := .code y_Pa_enter c_Pa_enter 3 none
set_option maxRecDepth 100000 in
theorem kc_Pa_enter : w_Pa_enter ∈ gt := gt_at 269 rfl (by decide +kernel)
def y_Pa_begin : MethodName := ⟨R_Pa, "begin", "(I)V"⟩
abbrev c_Pa_begin : ByteArray := prog_3_method_9_code
abbrev w_Pa_begin : Cond := .code y_Pa_begin c_Pa_begin 2 none
set_option maxRecDepth 100000 in
theorem kc_Pa_begin : w_Pa_begin ∈ gt := gt_at 274 rfl (by decide +kernel)
def y_Pa_wear : MethodName := ⟨R_Pa, "wear", "(I)V"⟩
abbrev c_Pa_wear : ByteArray := prog_3_method_10_code
abbrev w_Pa_wear : Cond := .code y_Pa_wear c_Pa_wear 6 none
set_option maxRecDepth 100000 in
theorem kc_Pa_wear : w_Pa_wear ∈ gt := gt_at 281 rfl (by decide +kernel)
def y_Pa_careTaken : MethodName := ⟨R_Pa, "careTaken", "(I)I"⟩
abbrev c_Pa_careTaken : ByteArray := prog_3_method_11_code
abbrev w_Pa_careTaken : Cond := .code y_Pa_careTaken c_Pa_careTaken 5 (some .int)
set_option maxRecDepth 100000 in
theorem kc_Pa_careTaken : w_Pa_careTaken ∈ gt := gt_at 292 rfl (by decide +kernel)
def y_Pa_greatestState : MethodName := ⟨R_Pa, "greatestState", "(I)I"⟩
abbrev c_Pa_greatestState : ByteArray := prog_3_method_12_code
abbrev w_Pa_greatestState : Cond := .code y_Pa_greatestState c_Pa_greatestState 4 (some .int)
set_option maxRecDepth 100000 in
theorem kc_Pa_greatestState : w_Pa_greatestState ∈ gt := gt_at 479 rfl (by decide +kernel)
def y_Wo_init : MethodName := ⟨R_Wo, "<init>", "(LCostYears$Years;)V"⟩
abbrev c_Wo_init : ByteArray := prog_4_method_1_code
abbrev w_Wo_init : Cond := .code y_Wo_init c_Wo_init 2 none
set_option maxRecDepth 100000 in
theorem kc_Wo_init : w_Wo_init ∈ gt := gt_at 122 rfl (by decide +kernel)
def y_Wo_has : MethodName := ⟨R_Wo, "has", "(I)Z"⟩
abbrev c_Wo_has : ByteArray := prog_4_method_2_code
abbrev w_Wo_has : Cond := .code y_Wo_has c_Wo_has 2 (some .boolean)
set_option maxRecDepth 100000 in
theorem kc_Wo_has : w_Wo_has ∈ gt := gt_at 502 rfl (by decide +kernel)
def y_Wo_all : MethodName := ⟨R_Wo, "all", "()I"⟩
abbrev c_Wo_all : ByteArray := prog_4_method_3_code
abbrev w_Wo_all : Cond := .code y_Wo_all c_Wo_all 1 (some .int)
set_option maxRecDepth 100000 in
theorem kc_Wo_all : w_Wo_all ∈ gt := gt_at 197 rfl (by decide +kernel)
def y_Wo_add : MethodName := ⟨R_Wo, "add", "(IIII)I"⟩
abbrev c_Wo_add : ByteArray := prog_4_method_4_code
abbrev w_Wo_add : Cond := .code y_Wo_add c_Wo_add 6 (some .int)
set_option maxRecDepth 100000 in
theorem kc_Wo_add : w_Wo_add ∈ gt := gt_at 491 rfl (by decide +kernel)
def y_Wo_worthOf : MethodName := ⟨R_Wo, "worthOf", "(I)I"⟩
abbrev c_Wo_worthOf : ByteArray := prog_4_method_5_code
abbrev w_Wo_worthOf : Cond := .code y_Wo_worthOf c_Wo_worthOf 4 (some .int)
set_option maxRecDepth 100000 in
theorem kc_Wo_worthOf : w_Wo_worthOf ∈ gt := gt_at 201 rfl (by decide +kernel)
def y_Wo_agree : MethodName := ⟨R_Wo, "agree", "(I)Z"⟩
abbrev c_Wo_agree : ByteArray := prog_4_method_6_code
abbrev w_Wo_agree : Cond := .code y_Wo_agree c_Wo_agree 3 (some .boolean)
set_option maxRecDepth 100000 in
theorem kc_Wo_agree : w_Wo_agree ∈ gt := gt_at 208 rfl (by decide +kernel)
def y_Wo_lacksNeeded : MethodName := ⟨R_Wo, "lacksNeeded", "(II)Z"⟩
abbrev c_Wo_lacksNeeded : ByteArray := prog_4_method_7_code
abbrev w_Wo_lacksNeeded : Cond := .code y_Wo_lacksNeeded c_Wo_lacksNeeded 4 (some .boolean)
set_option maxRecDepth 100000 in
theorem kc_Wo_lacksNeeded : w_Wo_lacksNeeded ∈ gt := gt_at 212 rfl (by decide +kernel)
def y_Wo_spend : MethodName := ⟨R_Wo, "spend", "(I)V"⟩
abbrev c_Wo_spend : ByteArray := prog_4_method_8_code
abbrev w_Wo_spend : Cond := .code y_Wo_spend c_Wo_spend 4 none
set_option maxRecDepth 100000 in
theorem kc_Wo_spend : w_Wo_spend ∈ gt := gt_at 216 rfl (by decide +kernel)
def y_Wo_savedWithEarlier : MethodName := ⟨R_Wo, "savedWithEarlier", "(II)I"⟩
abbrev c_Wo_savedWithEarlier : ByteArray := prog_4_method_9_code
abbrev w_Wo_savedWithEarlier : Cond := .code y_Wo_savedWithEarlier c_Wo_savedWithEarlier 5 (some .int)
set_option maxRecDepth 100000 in
theorem kc_Wo_savedWithEarlier : w_Wo_savedWithEarlier ∈ gt := gt_at 226 rfl (by decide +kernel)
def y_Wo_spentOverBudgets : MethodName := ⟨R_Wo, "spentOverBudgets", "()I"⟩
abbrev c_Wo_spentOverBudgets : ByteArray := prog_4_method_10_code
abbrev w_Wo_spentOverBudgets : Cond := .code y_Wo_spentOverBudgets c_Wo_spentOverBudgets 3 (some .int)
set_option maxRecDepth 100000 in
theorem kc_Wo_spentOverBudgets : w_Wo_spentOverBudgets ∈ gt := gt_at 235 rfl (by decide +kernel)
def y_Wo_spentInAll : MethodName := ⟨R_Wo, "spentInAll", "()I"⟩
abbrev c_Wo_spentInAll : ByteArray := prog_4_method_11_code
abbrev w_Wo_spentInAll : Cond := .code y_Wo_spentInAll c_Wo_spentInAll 3 (some .int)
set_option maxRecDepth 100000 in
theorem kc_Wo_spentInAll : w_Wo_spentInAll ∈ gt := gt_at 231 rfl (by decide +kernel)
def y_Wo_makeChoice : MethodName := ⟨R_Wo, "makeChoice", "()V"⟩
abbrev c_Wo_makeChoice : ByteArray := prog_4_method_12_code
abbrev w_Wo_makeChoice : Cond := .code y_Wo_makeChoice c_Wo_makeChoice 9 none
set_option maxRecDepth 100000 in
theorem kc_Wo_makeChoice : w_Wo_makeChoice ∈ gt := gt_at 193 rfl (by decide +kernel)
def y_Ye_init : MethodName := ⟨R_Ye, "<init>", "(I)V"⟩
abbrev c_Ye_init : ByteArray := prog_5_method_1_code
abbrev w_Ye_init : Cond := .code y_Ye_init c_Ye_init 2 none
set_option maxRecDepth 100000 in
theorem kc_Ye_init : w_Ye_init ∈ gt := gt_at 56 rfl (by decide +kernel)
def y_Ye_has : MethodName := ⟨R_Ye, "has", "(I)Z"⟩
abbrev c_Ye_has : ByteArray := prog_5_method_2_code
abbrev w_Ye_has : Cond := .code y_Ye_has c_Ye_has 2 (some .boolean)
set_option maxRecDepth 100000 in
theorem kc_Ye_has : w_Ye_has ∈ gt := gt_at 308 rfl (by decide +kernel)
def y_Ye_costIn : MethodName := ⟨R_Ye, "costIn", "(II)I"⟩
abbrev c_Ye_costIn : ByteArray := prog_5_method_3_code
abbrev w_Ye_costIn : Cond := .code y_Ye_costIn c_Ye_costIn 3 (some .int)
set_option maxRecDepth 100000 in
theorem kc_Ye_costIn : w_Ye_costIn ∈ gt := gt_at 221 rfl (by decide +kernel)
def y_La_cell : MethodName := ⟨R_La, "cell", "([II)I"⟩
abbrev c_La_cell : ByteArray := method_2_code
abbrev w_La_cell : Cond := .code y_La_cell c_La_cell 2 (some .int)
set_option maxRecDepth 100000 in
theorem kc_La_cell : w_La_cell ∈ gt := gt_at 296 rfl (by decide +kernel)
def y_La_index : MethodName := ⟨R_La, "index", "(LCostYears;II[J)I"⟩
abbrev c_La_index : ByteArray := method_3_code
abbrev w_La_index : Cond := .codeWith y_La_index c_La_index 5 (some .int) [(0, 10, 13, 13)]
set_option maxRecDepth 100000 in
theorem kc_La_index : w_La_index ∈ gt := gt_at 299 rfl (by decide +kernel)
def y_La_budget : MethodName := ⟨R_La, "budget", "(LCostYears;II[J)I"⟩
abbrev c_La_budget : ByteArray := method_4_code
abbrev w_La_budget : Cond := .codeWith y_La_budget c_La_budget 5 (some .int) [(0, 10, 13, 13)]
set_option maxRecDepth 100000 in
theorem kc_La_budget : w_La_budget ∈ gt := gt_at 384 rfl (by decide +kernel)
def y_La_part : MethodName := ⟨R_La, "part", "(LCostYears;II[J)I"⟩
abbrev c_La_part : ByteArray := method_5_code
abbrev w_La_part : Cond := .codeWith y_La_part c_La_part 5 (some .int) [(0, 10, 13, 13), (0, 10, 17, 21)]
set_option maxRecDepth 100000 in
theorem kc_La_part : w_La_part ∈ gt := gt_at 392 rfl (by decide +kernel)
def y_La_moves : MethodName := ⟨R_La, "moves", "(LCostYears;IIII[J)I"⟩
abbrev c_La_moves : ByteArray := method_6_code
abbrev w_La_moves : Cond := .codeWith y_La_moves c_La_moves 7 (some .int) [(0, 14, 17, 13)]
set_option maxRecDepth 100000 in
theorem kc_La_moves : w_La_moves ∈ gt := gt_at 427 rfl (by decide +kernel)
def y_La_care : MethodName := ⟨R_La, "care", "(LCostYears;III[J)I"⟩
abbrev c_La_care : ByteArray := method_7_code
abbrev w_La_care : Cond := .codeWith y_La_care c_La_care 6 (some .int) [(0, 12, 15, 13)]
set_option maxRecDepth 100000 in
theorem kc_La_care : w_La_care ∈ gt := gt_at 444 rfl (by decide +kernel)
def y_La_share : MethodName := ⟨R_La, "share", "(LCostYears;III[J)I"⟩
abbrev c_La_share : ByteArray := method_8_code
abbrev w_La_share : Cond := .codeWith y_La_share c_La_share 6 (some .int) [(0, 11, 14, 13)]
set_option maxRecDepth 100000 in
theorem kc_La_share : w_La_share ∈ gt := gt_at 451 rfl (by decide +kernel)
def y_La_cares : MethodName := ⟨R_La, "cares", "(LCostYears;II[J)I"⟩
abbrev c_La_cares : ByteArray := method_9_code
abbrev w_La_cares : Cond := .codeWith y_La_cares c_La_cares 5 (some .int) [(0, 10, 13, 13)]
set_option maxRecDepth 100000 in
theorem kc_La_cares : w_La_cares ∈ gt := gt_at 463 rfl (by decide +kernel)
def y_La_most : MethodName := ⟨R_La, "most", "(LCostYears;II[J)I"⟩
abbrev c_La_most : ByteArray := method_10_code
abbrev w_La_most : Cond := .codeWith y_La_most c_La_most 5 (some .int) [(0, 10, 13, 13)]
set_option maxRecDepth 100000 in
theorem kc_La_most : w_La_most ∈ gt := gt_at 471 rfl (by decide +kernel)
def y_La_work : MethodName := ⟨R_La, "work", "(LCostYears;IIII[J)I"⟩
abbrev c_La_work : ByteArray := method_11_code
abbrev w_La_work : Cond := .codeWith y_La_work c_La_work 7 (some .int) [(0, 14, 17, 13), (0, 14, 21, 21)]
set_option maxRecDepth 100000 in
theorem kc_La_work : w_La_work ∈ gt := gt_at 482 rfl (by decide +kernel)
def y_La_join : MethodName := ⟨R_La, "join", "(LCostYears;III[J)I"⟩
abbrev c_La_join : ByteArray := method_12_code
abbrev w_La_join : Cond := .codeWith y_La_join c_La_join 6 (some .int) [(0, 12, 15, 13)]
set_option maxRecDepth 100000 in
theorem kc_La_join : w_La_join ∈ gt := gt_at 494 rfl (by decide +kernel)
def y_La_clash : MethodName := ⟨R_La, "clash", "(LCostYears;IIZ[J)I"⟩
abbrev c_La_clash : ByteArray := method_13_code
abbrev w_La_clash : Cond := .codeWith y_La_clash c_La_clash 6 (some .int) [(0, 19, 22, 13)]
set_option maxRecDepth 100000 in
theorem kc_La_clash : w_La_clash ∈ gt := gt_at 505 rfl (by decide +kernel)
def y_La_needs : MethodName := ⟨R_La, "needs", "(LCostYears;II[J)I"⟩
abbrev c_La_needs : ByteArray := method_14_code
abbrev w_La_needs : Cond := .codeWith y_La_needs c_La_needs 5 (some .int) [(0, 10, 13, 13)]
set_option maxRecDepth 100000 in
theorem kc_La_needs : w_La_needs ∈ gt := gt_at 512 rfl (by decide +kernel)
def y_La_chosen : MethodName := ⟨R_La, "chosen", "(LCostYears;I[J)I"⟩
abbrev c_La_chosen : ByteArray := method_15_code
abbrev w_La_chosen : Cond := .codeWith y_La_chosen c_La_chosen 4 (some .int) [(0, 16, 19, 13)]
set_option maxRecDepth 100000 in
theorem kc_La_chosen : w_La_chosen ∈ gt := gt_at 519 rfl (by decide +kernel)
def y_La_costs : MethodName := ⟨R_La, "costs", "(LCostYears;I[J)I"⟩
abbrev c_La_costs : ByteArray := method_16_code
abbrev w_La_costs : Cond := .codeWith y_La_costs c_La_costs 4 (some .int) [(0, 9, 12, 13)]
set_option maxRecDepth 100000 in
theorem kc_La_costs : w_La_costs ∈ gt := gt_at 526 rfl (by decide +kernel)
def y_La_money : MethodName := ⟨R_La, "money", "(LCostYears;II)I"⟩
abbrev c_La_money : ByteArray := method_17_code
abbrev w_La_money : Cond := .codeWith y_La_money c_La_money 4 (some .int) [(0, 6, 9, 13)]
set_option maxRecDepth 100000 in
theorem kc_La_money : w_La_money ∈ gt := gt_at 533 rfl (by decide +kernel)
def y_La_reserve : MethodName := ⟨R_La, "reserve", "(LCostYears;I[J)I"⟩
abbrev c_La_reserve : ByteArray := method_18_code
abbrev w_La_reserve : Cond := .codeWith y_La_reserve c_La_reserve 4 (some .int) [(0, 8, 11, 13)]
set_option maxRecDepth 100000 in
theorem kc_La_reserve : w_La_reserve ∈ gt := gt_at 540 rfl (by decide +kernel)
def y_La_payment : MethodName := ⟨R_La, "payment", "(LCostYears;III[J)I"⟩
abbrev c_La_payment : ByteArray := method_19_code
abbrev w_La_payment : Cond := .codeWith y_La_payment c_La_payment 6 (some .int) [(0, 12, 15, 13)]
set_option maxRecDepth 100000 in
theorem kc_La_payment : w_La_payment ∈ gt := gt_at 547 rfl (by decide +kernel)
def y_La_rest : MethodName := ⟨R_La, "rest", "(LCostYears;IIII[J)I"⟩
abbrev c_La_rest : ByteArray := method_20_code
abbrev w_La_rest : Cond := .codeWith y_La_rest c_La_rest 7 (some .int) [(0, 14, 17, 13)]
set_option maxRecDepth 100000 in
theorem kc_La_rest : w_La_rest ∈ gt := gt_at 569 rfl (by decide +kernel)
def y_Ar_fillI : MethodName := ⟨R_Ar, "fill", "([II)V"⟩
abbrev c_Ar_fillI : ByteArray := prog_16_method_103_code
abbrev w_Ar_fillI : Cond := .code y_Ar_fillI c_Ar_fillI 4 none
set_option maxRecDepth 100000 in
theorem kc_Ar_fillI : w_Ar_fillI ∈ gt := gt_at 60 rfl (by decide +kernel)
def y_Ar_fillJ : MethodName := ⟨R_Ar, "fill", "([JJ)V"⟩
abbrev c_Ar_fillJ : ByteArray := prog_16_method_101_code
abbrev w_Ar_fillJ : Cond := .code y_Ar_fillJ c_Ar_fillJ 5 none
set_option maxRecDepth 100000 in
theorem kc_Ar_fillJ : w_Ar_fillJ ∈ gt := gt_at 277 rfl (by decide +kernel)
def y_Ma_maxI : MethodName := ⟨R_Ma, "max", "(II)I"⟩
abbrev c_Ma_maxI : ByteArray := prog_11_method_65_code
abbrev w_Ma_maxI : Cond := .code y_Ma_maxI c_Ma_maxI 2 (some .int)
set_option maxRecDepth 100000 in
theorem kc_Ma_maxI : w_Ma_maxI ∈ gt := gt_at 53 rfl (by decide +kernel)
def y_Ma_minI : MethodName := ⟨R_Ma, "min", "(II)I"⟩
abbrev c_Ma_minI : ByteArray := prog_11_method_69_code
abbrev w_Ma_minI : Cond := .code y_Ma_minI c_Ma_minI 2 (some .int)
set_option maxRecDepth 100000 in
theorem kc_Ma_minI : w_Ma_minI ∈ gt := gt_at 50 rfl (by decide +kernel)
def y_Ma_maxJ : MethodName := ⟨R_Ma, "max", "(JJ)J"⟩
abbrev c_Ma_maxJ : ByteArray := prog_11_method_66_code
abbrev w_Ma_maxJ : Cond := .code y_Ma_maxJ c_Ma_maxJ 4 (some .long)
set_option maxRecDepth 100000 in
theorem kc_Ma_maxJ : w_Ma_maxJ ∈ gt := gt_at 566 rfl (by decide +kernel)
theorem kn_CY : Cond.initialized R_CY ∈ gt := gt_at 24 (by decide +kernel) (by decide +kernel)
theorem kn_Lo : Cond.initialized R_Lo ∈ gt := gt_at 37 (by decide +kernel) (by decide +kernel)
theorem kn_Pa : Cond.initialized R_Pa ∈ gt := gt_at 28 (by decide +kernel) (by decide +kernel)
theorem kn_Wo : Cond.initialized R_Wo ∈ gt := gt_at 29 (by decide +kernel) (by decide +kernel)
theorem kn_Ye : Cond.initialized R_Ye ∈ gt := gt_at 25 (by decide +kernel) (by decide +kernel)
theorem kn_Mo : Cond.initialized R_Mo ∈ gt := gt_at 30 (by decide +kernel) (by decide +kernel)
theorem kn_La : Cond.initialized R_La ∈ gt := gt_at 23 (by decide +kernel) (by decide +kernel)
theorem kn_Ar : Cond.initialized R_Ar ∈ gt := gt_at 27 (by decide +kernel) (by decide +kernel)
theorem kn_Ma : Cond.initialized R_Ma ∈ gt := gt_at 26 (by decide +kernel) (by decide +kernel)
theorem ki_CY_init : Cond.instanceMethod y_CY_init ∈ gt := gt_at 41 (by decide +kernel) (by decide +kernel)
theorem ki_CY_index : Cond.instanceMethod y_CY_index ∈ gt := gt_at 302 (by decide +kernel) (by decide +kernel)
theorem kv_CY_index : Cond.selects R_CY y_CY_index y_CY_index ∈ gt := gt_at 303 (by decide +kernel) (by decide +kernel)
theorem ki_CY_budget : Cond.instanceMethod y_CY_budget ∈ gt := gt_at 386 (by decide +kernel) (by decide +kernel)
theorem kv_CY_budget : Cond.selects R_CY y_CY_budget y_CY_budget ∈ gt := gt_at 387 (by decide +kernel) (by decide +kernel)
theorem ki_CY_part : Cond.instanceMethod y_CY_part ∈ gt := gt_at 395 (by decide +kernel) (by decide +kernel)
theorem kv_CY_part : Cond.selects R_CY y_CY_part y_CY_part ∈ gt := gt_at 396 (by decide +kernel) (by decide +kernel)
theorem ki_CY_moves : Cond.instanceMethod y_CY_moves ∈ gt := gt_at 429 (by decide +kernel) (by decide +kernel)
theorem kv_CY_moves : Cond.selects R_CY y_CY_moves y_CY_moves ∈ gt := gt_at 430 (by decide +kernel) (by decide +kernel)
theorem ki_CY_care : Cond.instanceMethod y_CY_care ∈ gt := gt_at 446 (by decide +kernel) (by decide +kernel)
theorem kv_CY_care : Cond.selects R_CY y_CY_care y_CY_care ∈ gt := gt_at 447 (by decide +kernel) (by decide +kernel)
theorem ki_CY_share : Cond.instanceMethod y_CY_share ∈ gt := gt_at 453 (by decide +kernel) (by decide +kernel)
theorem kv_CY_share : Cond.selects R_CY y_CY_share y_CY_share ∈ gt := gt_at 454 (by decide +kernel) (by decide +kernel)
theorem ki_CY_cares : Cond.instanceMethod y_CY_cares ∈ gt := gt_at 465 (by decide +kernel) (by decide +kernel)
theorem kv_CY_cares : Cond.selects R_CY y_CY_cares y_CY_cares ∈ gt := gt_at 466 (by decide +kernel) (by decide +kernel)
theorem ki_CY_most : Cond.instanceMethod y_CY_most ∈ gt := gt_at 473 (by decide +kernel) (by decide +kernel)
theorem kv_CY_most : Cond.selects R_CY y_CY_most y_CY_most ∈ gt := gt_at 474 (by decide +kernel) (by decide +kernel)
theorem ki_CY_work : Cond.instanceMethod y_CY_work ∈ gt := gt_at 484 (by decide +kernel) (by decide +kernel)
theorem kv_CY_work : Cond.selects R_CY y_CY_work y_CY_work ∈ gt := gt_at 485 (by decide +kernel) (by decide +kernel)
theorem ki_CY_join : Cond.instanceMethod y_CY_join ∈ gt := gt_at 496 (by decide +kernel) (by decide +kernel)
theorem kv_CY_join : Cond.selects R_CY y_CY_join y_CY_join ∈ gt := gt_at 497 (by decide +kernel) (by decide +kernel)
theorem ki_CY_clash : Cond.instanceMethod y_CY_clash ∈ gt := gt_at 507 (by decide +kernel) (by decide +kernel)
theorem kv_CY_clash : Cond.selects R_CY y_CY_clash y_CY_clash ∈ gt := gt_at 508 (by decide +kernel) (by decide +kernel)
theorem ki_CY_needs : Cond.instanceMethod y_CY_needs ∈ gt := gt_at 514 (by decide +kernel) (by decide +kernel)
theorem kv_CY_needs : Cond.selects R_CY y_CY_needs y_CY_needs ∈ gt := gt_at 515 (by decide +kernel) (by decide +kernel)
theorem ki_CY_choose : Cond.instanceMethod y_CY_choose ∈ gt := gt_at 187 (by decide +kernel) (by decide +kernel)
theorem kv_CY_choose : Cond.selects R_CY y_CY_choose y_CY_choose ∈ gt := gt_at 188 (by decide +kernel) (by decide +kernel)
theorem ki_CY_chosen : Cond.instanceMethod y_CY_chosen ∈ gt := gt_at 521 (by decide +kernel) (by decide +kernel)
theorem kv_CY_chosen : Cond.selects R_CY y_CY_chosen y_CY_chosen ∈ gt := gt_at 522 (by decide +kernel) (by decide +kernel)
theorem ki_CY_costs : Cond.instanceMethod y_CY_costs ∈ gt := gt_at 528 (by decide +kernel) (by decide +kernel)
theorem kv_CY_costs : Cond.selects R_CY y_CY_costs y_CY_costs ∈ gt := gt_at 529 (by decide +kernel) (by decide +kernel)
theorem ki_CY_lacks : Cond.instanceMethod y_CY_lacks ∈ gt := gt_at 247 (by decide +kernel) (by decide +kernel)
theorem kv_CY_lacks : Cond.selects R_CY y_CY_lacks y_CY_lacks ∈ gt := gt_at 248 (by decide +kernel) (by decide +kernel)
theorem ki_CY_money : Cond.instanceMethod y_CY_money ∈ gt := gt_at 535 (by decide +kernel) (by decide +kernel)
theorem kv_CY_money : Cond.selects R_CY y_CY_money y_CY_money ∈ gt := gt_at 536 (by decide +kernel) (by decide +kernel)
theorem ki_CY_reserve : Cond.instanceMethod y_CY_reserve ∈ gt := gt_at 542 (by decide +kernel) (by decide +kernel)
theorem kv_CY_reserve : Cond.selects R_CY y_CY_reserve y_CY_reserve ∈ gt := gt_at 543 (by decide +kernel) (by decide +kernel)
theorem ki_CY_shortIn : Cond.instanceMethod y_CY_shortIn ∈ gt := gt_at 255 (by decide +kernel) (by decide +kernel)
theorem kv_CY_shortIn : Cond.selects R_CY y_CY_shortIn y_CY_shortIn ∈ gt := gt_at 256 (by decide +kernel) (by decide +kernel)
theorem ki_CY_payment : Cond.instanceMethod y_CY_payment ∈ gt := gt_at 549 (by decide +kernel) (by decide +kernel)
theorem kv_CY_payment : Cond.selects R_CY y_CY_payment y_CY_payment ∈ gt := gt_at 550 (by decide +kernel) (by decide +kernel)
theorem ki_CY_rest : Cond.instanceMethod y_CY_rest ∈ gt := gt_at 571 (by decide +kernel) (by decide +kernel)
theorem kv_CY_rest : Cond.selects R_CY y_CY_rest y_CY_rest ∈ gt := gt_at 572 (by decide +kernel) (by decide +kernel)
theorem ks_CY_refuseUnless : Cond.static y_CY_refuseUnless ∈ gt := gt_at 313 (by decide +kernel) (by decide +kernel)
theorem ks_CY_refuseIfFull : Cond.static y_CY_refuseIfFull ∈ gt := gt_at 399 (by decide +kernel) (by decide +kernel)
theorem ks_CY_isWithin : Cond.static y_CY_isWithin ∈ gt := gt_at 310 (by decide +kernel) (by decide +kernel)
theorem ks_CY_holds : Cond.static y_CY_holds ∈ gt := gt_at 203 (by decide +kernel) (by decide +kernel)
theorem ks_CY_withBit : Cond.static y_CY_withBit ∈ gt := gt_at 243 (by decide +kernel) (by decide +kernel)
theorem ki_CY_renewParts : Cond.instanceMethod y_CY_renewParts ∈ gt := gt_at 238 (by decide +kernel) (by decide +kernel)
theorem kv_CY_renewParts : Cond.selects R_CY y_CY_renewParts y_CY_renewParts ∈ gt := gt_at 3 (by decide +kernel) (by decide +kernel)
theorem ki_CY_reckonReserves : Cond.instanceMethod y_CY_reckonReserves ∈ gt := gt_at 260 (by decide +kernel) (by decide +kernel)
theorem kv_CY_reckonReserves : Cond.selects R_CY y_CY_reckonReserves y_CY_reckonReserves ∈ gt := gt_at 4 (by decide +kernel) (by decide +kernel)
theorem ki_CY_takeCareFromReserves : Cond.instanceMethod y_CY_takeCareFromReserves ∈ gt := gt_at 264 (by decide +kernel) (by decide +kernel)
theorem kv_CY_takeCareFromReserves : Cond.selects R_CY y_CY_takeCareFromReserves y_CY_takeCareFromReserves ∈ gt := gt_at 5 (by decide +kernel) (by decide +kernel)
theorem ki_Mo_init : Cond.instanceMethod y_Mo_init ∈ gt := gt_at 578 (by decide +kernel) (by decide +kernel)
theorem ki_Mo_thrown : Cond.instanceMethod y_Mo_thrown ∈ gt := gt_at 653 (by decide +kernel) (by decide +kernel)
theorem kv_Mo_thrown : Cond.selects R_Mo y_Mo_thrown y_Mo_thrown ∈ gt := gt_at 654 (by decide +kernel) (by decide +kernel)
theorem ki_Mo_refuses : Cond.instanceMethod y_Mo_refuses ∈ gt := gt_at 671 (by decide +kernel) (by decide +kernel)
theorem kv_Mo_refuses : Cond.selects R_Mo y_Mo_refuses y_Mo_refuses ∈ gt := gt_at 10 (by decide +kernel) (by decide +kernel)
theorem ks_Mo_within : Cond.static y_Mo_within ∈ gt := gt_at 665 (by decide +kernel) (by decide +kernel)
theorem ki_Mo_isYear : Cond.instanceMethod y_Mo_isYear ∈ gt := gt_at 662 (by decide +kernel) (by decide +kernel)
theorem kv_Mo_isYear : Cond.selects R_Mo y_Mo_isYear y_Mo_isYear ∈ gt := gt_at 9 (by decide +kernel) (by decide +kernel)
theorem ki_Mo_isPart : Cond.instanceMethod y_Mo_isPart ∈ gt := gt_at 694 (by decide +kernel) (by decide +kernel)
theorem kv_Mo_isPart : Cond.selects R_Mo y_Mo_isPart y_Mo_isPart ∈ gt := gt_at 12 (by decide +kernel) (by decide +kernel)
theorem ki_Mo_isState : Cond.instanceMethod y_Mo_isState ∈ gt := gt_at 690 (by decide +kernel) (by decide +kernel)
theorem kv_Mo_isState : Cond.selects R_Mo y_Mo_isState y_Mo_isState ∈ gt := gt_at 11 (by decide +kernel) (by decide +kernel)
theorem ki_Mo_isWork : Cond.instanceMethod y_Mo_isWork ∈ gt := gt_at 745 (by decide +kernel) (by decide +kernel)
theorem kv_Mo_isWork : Cond.selects R_Mo y_Mo_isWork y_Mo_isWork ∈ gt := gt_at 18 (by decide +kernel) (by decide +kernel)
theorem ki_Mo_index : Cond.instanceMethod y_Mo_index ∈ gt := gt_at 657 (by decide +kernel) (by decide +kernel)
theorem kv_Mo_index : Cond.selects R_Mo y_Mo_index y_Mo_index ∈ gt := gt_at 658 (by decide +kernel) (by decide +kernel)
theorem ki_Mo_budget : Cond.instanceMethod y_Mo_budget ∈ gt := gt_at 674 (by decide +kernel) (by decide +kernel)
theorem kv_Mo_budget : Cond.selects R_Mo y_Mo_budget y_Mo_budget ∈ gt := gt_at 675 (by decide +kernel) (by decide +kernel)
theorem ki_Mo_part : Cond.instanceMethod y_Mo_part ∈ gt := gt_at 679 (by decide +kernel) (by decide +kernel)
theorem kv_Mo_part : Cond.selects R_Mo y_Mo_part y_Mo_part ∈ gt := gt_at 680 (by decide +kernel) (by decide +kernel)
theorem ki_Mo_leaving : Cond.instanceMethod y_Mo_leaving ∈ gt := gt_at 699 (by decide +kernel) (by decide +kernel)
theorem kv_Mo_leaving : Cond.selects R_Mo y_Mo_leaving y_Mo_leaving ∈ gt := gt_at 13 (by decide +kernel) (by decide +kernel)
theorem ki_Mo_moves : Cond.instanceMethod y_Mo_moves ∈ gt := gt_at 685 (by decide +kernel) (by decide +kernel)
theorem kv_Mo_moves : Cond.selects R_Mo y_Mo_moves y_Mo_moves ∈ gt := gt_at 686 (by decide +kernel) (by decide +kernel)
theorem ki_Mo_care : Cond.instanceMethod y_Mo_care ∈ gt := gt_at 702 (by decide +kernel) (by decide +kernel)
theorem kv_Mo_care : Cond.selects R_Mo y_Mo_care y_Mo_care ∈ gt := gt_at 703 (by decide +kernel) (by decide +kernel)
theorem ki_Mo_begins : Cond.instanceMethod y_Mo_begins ∈ gt := gt_at 716 (by decide +kernel) (by decide +kernel)
theorem kv_Mo_begins : Cond.selects R_Mo y_Mo_begins y_Mo_begins ∈ gt := gt_at 15 (by decide +kernel) (by decide +kernel)
theorem ki_Mo_learn : Cond.instanceMethod y_Mo_learn ∈ gt := gt_at 712 (by decide +kernel) (by decide +kernel)
theorem kv_Mo_learn : Cond.selects R_Mo y_Mo_learn y_Mo_learn ∈ gt := gt_at 14 (by decide +kernel) (by decide +kernel)
theorem ki_Mo_share : Cond.instanceMethod y_Mo_share ∈ gt := gt_at 707 (by decide +kernel) (by decide +kernel)
theorem kv_Mo_share : Cond.selects R_Mo y_Mo_share y_Mo_share ∈ gt := gt_at 708 (by decide +kernel) (by decide +kernel)
theorem ki_Mo_careOf : Cond.instanceMethod y_Mo_careOf ∈ gt := gt_at 724 (by decide +kernel) (by decide +kernel)
theorem kv_Mo_careOf : Cond.selects R_Mo y_Mo_careOf y_Mo_careOf ∈ gt := gt_at 16 (by decide +kernel) (by decide +kernel)
theorem ki_Mo_cares : Cond.instanceMethod y_Mo_cares ∈ gt := gt_at 719 (by decide +kernel) (by decide +kernel)
theorem kv_Mo_cares : Cond.selects R_Mo y_Mo_cares y_Mo_cares ∈ gt := gt_at 720 (by decide +kernel) (by decide +kernel)
theorem ki_Mo_most : Cond.instanceMethod y_Mo_most ∈ gt := gt_at 727 (by decide +kernel) (by decide +kernel)
theorem kv_Mo_most : Cond.selects R_Mo y_Mo_most y_Mo_most ∈ gt := gt_at 728 (by decide +kernel) (by decide +kernel)
theorem ki_Mo_work : Cond.instanceMethod y_Mo_work ∈ gt := gt_at 731 (by decide +kernel) (by decide +kernel)
theorem kv_Mo_work : Cond.selects R_Mo y_Mo_work y_Mo_work ∈ gt := gt_at 732 (by decide +kernel) (by decide +kernel)
theorem ki_Mo_areTwo : Cond.instanceMethod y_Mo_areTwo ∈ gt := gt_at 741 (by decide +kernel) (by decide +kernel)
theorem kv_Mo_areTwo : Cond.selects R_Mo y_Mo_areTwo y_Mo_areTwo ∈ gt := gt_at 17 (by decide +kernel) (by decide +kernel)
theorem ki_Mo_join : Cond.instanceMethod y_Mo_join ∈ gt := gt_at 736 (by decide +kernel) (by decide +kernel)
theorem kv_Mo_join : Cond.selects R_Mo y_Mo_join y_Mo_join ∈ gt := gt_at 737 (by decide +kernel) (by decide +kernel)
theorem ki_Mo_clash : Cond.instanceMethod y_Mo_clash ∈ gt := gt_at 748 (by decide +kernel) (by decide +kernel)
theorem kv_Mo_clash : Cond.selects R_Mo y_Mo_clash y_Mo_clash ∈ gt := gt_at 749 (by decide +kernel) (by decide +kernel)
theorem ki_Mo_needs : Cond.instanceMethod y_Mo_needs ∈ gt := gt_at 752 (by decide +kernel) (by decide +kernel)
theorem kv_Mo_needs : Cond.selects R_Mo y_Mo_needs y_Mo_needs ∈ gt := gt_at 753 (by decide +kernel) (by decide +kernel)
theorem ks_Mo_has : Cond.static y_Mo_has ∈ gt := gt_at 760 (by decide +kernel) (by decide +kernel)
theorem ki_Mo_goesTogether : Cond.instanceMethod y_Mo_goesTogether ∈ gt := gt_at 764 (by decide +kernel) (by decide +kernel)
theorem kv_Mo_goesTogether : Cond.selects R_Mo y_Mo_goesTogether y_Mo_goesTogether ∈ gt := gt_at 19 (by decide +kernel) (by decide +kernel)
theorem ki_Mo_costOf : Cond.instanceMethod y_Mo_costOf ∈ gt := gt_at 772 (by decide +kernel) (by decide +kernel)
theorem kv_Mo_costOf : Cond.selects R_Mo y_Mo_costOf y_Mo_costOf ∈ gt := gt_at 21 (by decide +kernel) (by decide +kernel)
theorem ki_Mo_lackOf : Cond.instanceMethod y_Mo_lackOf ∈ gt := gt_at 768 (by decide +kernel) (by decide +kernel)
theorem kv_Mo_lackOf : Cond.selects R_Mo y_Mo_lackOf y_Mo_lackOf ∈ gt := gt_at 20 (by decide +kernel) (by decide +kernel)
theorem ki_Mo_choose : Cond.instanceMethod y_Mo_choose ∈ gt := gt_at 756 (by decide +kernel) (by decide +kernel)
theorem kv_Mo_choose : Cond.selects R_Mo y_Mo_choose y_Mo_choose ∈ gt := gt_at 757 (by decide +kernel) (by decide +kernel)
theorem ki_Mo_chosen : Cond.instanceMethod y_Mo_chosen ∈ gt := gt_at 775 (by decide +kernel) (by decide +kernel)
theorem kv_Mo_chosen : Cond.selects R_Mo y_Mo_chosen y_Mo_chosen ∈ gt := gt_at 776 (by decide +kernel) (by decide +kernel)
theorem ki_Mo_costs : Cond.instanceMethod y_Mo_costs ∈ gt := gt_at 779 (by decide +kernel) (by decide +kernel)
theorem kv_Mo_costs : Cond.selects R_Mo y_Mo_costs y_Mo_costs ∈ gt := gt_at 780 (by decide +kernel) (by decide +kernel)
theorem ki_Mo_lacks : Cond.instanceMethod y_Mo_lacks ∈ gt := gt_at 783 (by decide +kernel) (by decide +kernel)
theorem kv_Mo_lacks : Cond.selects R_Mo y_Mo_lacks y_Mo_lacks ∈ gt := gt_at 784 (by decide +kernel) (by decide +kernel)
theorem ki_Mo_money : Cond.instanceMethod y_Mo_money ∈ gt := gt_at 787 (by decide +kernel) (by decide +kernel)
theorem kv_Mo_money : Cond.selects R_Mo y_Mo_money y_Mo_money ∈ gt := gt_at 788 (by decide +kernel) (by decide +kernel)
theorem ki_Mo_reserveOf : Cond.instanceMethod y_Mo_reserveOf ∈ gt := gt_at 796 (by decide +kernel) (by decide +kernel)
theorem kv_Mo_reserveOf : Cond.selects R_Mo y_Mo_reserveOf y_Mo_reserveOf ∈ gt := gt_at 22 (by decide +kernel) (by decide +kernel)
theorem ki_Mo_reserve : Cond.instanceMethod y_Mo_reserve ∈ gt := gt_at 791 (by decide +kernel) (by decide +kernel)
theorem kv_Mo_reserve : Cond.selects R_Mo y_Mo_reserve y_Mo_reserve ∈ gt := gt_at 792 (by decide +kernel) (by decide +kernel)
theorem ki_Mo_shortIn : Cond.instanceMethod y_Mo_shortIn ∈ gt := gt_at 799 (by decide +kernel) (by decide +kernel)
theorem kv_Mo_shortIn : Cond.selects R_Mo y_Mo_shortIn y_Mo_shortIn ∈ gt := gt_at 800 (by decide +kernel) (by decide +kernel)
theorem ks_Mo_restOf : Cond.static y_Mo_restOf ∈ gt := gt_at 815 (by decide +kernel) (by decide +kernel)
theorem ks_Mo_paymentOf : Cond.static y_Mo_paymentOf ∈ gt := gt_at 811 (by decide +kernel) (by decide +kernel)
theorem ks_Mo_isLoan : Cond.static y_Mo_isLoan ∈ gt := gt_at 807 (by decide +kernel) (by decide +kernel)
theorem ki_Mo_payment : Cond.instanceMethod y_Mo_payment ∈ gt := gt_at 803 (by decide +kernel) (by decide +kernel)
theorem kv_Mo_payment : Cond.selects R_Mo y_Mo_payment y_Mo_payment ∈ gt := gt_at 804 (by decide +kernel) (by decide +kernel)
theorem ki_Mo_rest : Cond.instanceMethod y_Mo_rest ∈ gt := gt_at 820 (by decide +kernel) (by decide +kernel)
theorem kv_Mo_rest : Cond.selects R_Mo y_Mo_rest y_Mo_rest ∈ gt := gt_at 821 (by decide +kernel) (by decide +kernel)
theorem ks_Lo_isOne : Cond.static y_Lo_isOne ∈ gt := gt_at 553 (by decide +kernel) (by decide +kernel)
theorem ks_Lo_restBehind : Cond.static y_Lo_restBehind ∈ gt := gt_at 561 (by decide +kernel) (by decide +kernel)
theorem ks_Lo_leastPayment : Cond.static y_Lo_leastPayment ∈ gt := gt_at 558 (by decide +kernel) (by decide +kernel)
theorem ki_Pa_init : Cond.instanceMethod y_Pa_init ∈ gt := gt_at 80 (by decide +kernel) (by decide +kernel)
theorem ki_Pa_has : Cond.instanceMethod y_Pa_has ∈ gt := gt_at 437 (by decide +kernel) (by decide +kernel)
theorem kv_Pa_has : Cond.selects R_Pa y_Pa_has y_Pa_has ∈ gt := gt_at 438 (by decide +kernel) (by decide +kernel)
theorem ki_Pa_hasState : Cond.instanceMethod y_Pa_hasState ∈ gt := gt_at 433 (by decide +kernel) (by decide +kernel)
theorem kv_Pa_hasState : Cond.selects R_Pa y_Pa_hasState y_Pa_hasState ∈ gt := gt_at 434 (by decide +kernel) (by decide +kernel)
theorem ki_Pa_add : Cond.instanceMethod y_Pa_add ∈ gt := gt_at 418 (by decide +kernel) (by decide +kernel)
theorem kv_Pa_add : Cond.selects R_Pa y_Pa_add y_Pa_add ∈ gt := gt_at 419 (by decide +kernel) (by decide +kernel)
theorem ki_Pa_going : Cond.instanceMethod y_Pa_going ∈ gt := gt_at 283 (by decide +kernel) (by decide +kernel)
theorem kv_Pa_going : Cond.selects R_Pa y_Pa_going y_Pa_going ∈ gt := gt_at 284 (by decide +kernel) (by decide +kernel)
theorem ki_Pa_setGoing : Cond.instanceMethod y_Pa_setGoing ∈ gt := gt_at 422 (by decide +kernel) (by decide +kernel)
theorem kv_Pa_setGoing : Cond.selects R_Pa y_Pa_setGoing y_Pa_setGoing ∈ gt := gt_at 423 (by decide +kernel) (by decide +kernel)
theorem ki_Pa_goTo : Cond.instanceMethod y_Pa_goTo ∈ gt := gt_at 457 (by decide +kernel) (by decide +kernel)
theorem kv_Pa_goTo : Cond.selects R_Pa y_Pa_goTo y_Pa_goTo ∈ gt := gt_at 458 (by decide +kernel) (by decide +kernel)
theorem ki_Pa_enter : Cond.instanceMethod y_Pa_enter ∈ gt := gt_at 267 (by decide +kernel) (by decide +kernel)
theorem kv_Pa_enter : Cond.selects R_Pa y_Pa_enter y_Pa_enter ∈ gt := gt_at 268 (by decide +kernel) (by decide +kernel)
theorem ki_Pa_begin : Cond.instanceMethod y_Pa_begin ∈ gt := gt_at 273 (by decide +kernel) (by decide +kernel)
theorem kv_Pa_begin : Cond.selects R_Pa y_Pa_begin y_Pa_begin ∈ gt := gt_at 6 (by decide +kernel) (by decide +kernel)
theorem ki_Pa_wear : Cond.instanceMethod y_Pa_wear ∈ gt := gt_at 280 (by decide +kernel) (by decide +kernel)
theorem kv_Pa_wear : Cond.selects R_Pa y_Pa_wear y_Pa_wear ∈ gt := gt_at 7 (by decide +kernel) (by decide +kernel)
theorem ki_Pa_careTaken : Cond.instanceMethod y_Pa_careTaken ∈ gt := gt_at 290 (by decide +kernel) (by decide +kernel)
theorem kv_Pa_careTaken : Cond.selects R_Pa y_Pa_careTaken y_Pa_careTaken ∈ gt := gt_at 291 (by decide +kernel) (by decide +kernel)
theorem ki_Pa_greatestState : Cond.instanceMethod y_Pa_greatestState ∈ gt := gt_at 477 (by decide +kernel) (by decide +kernel)
theorem kv_Pa_greatestState : Cond.selects R_Pa y_Pa_greatestState y_Pa_greatestState ∈ gt := gt_at 478 (by decide +kernel) (by decide +kernel)
theorem ki_Wo_init : Cond.instanceMethod y_Wo_init ∈ gt := gt_at 121 (by decide +kernel) (by decide +kernel)
theorem ki_Wo_has : Cond.instanceMethod y_Wo_has ∈ gt := gt_at 500 (by decide +kernel) (by decide +kernel)
theorem kv_Wo_has : Cond.selects R_Wo y_Wo_has y_Wo_has ∈ gt := gt_at 501 (by decide +kernel) (by decide +kernel)
theorem ki_Wo_all : Cond.instanceMethod y_Wo_all ∈ gt := gt_at 195 (by decide +kernel) (by decide +kernel)
theorem kv_Wo_all : Cond.selects R_Wo y_Wo_all y_Wo_all ∈ gt := gt_at 196 (by decide +kernel) (by decide +kernel)
theorem ki_Wo_add : Cond.instanceMethod y_Wo_add ∈ gt := gt_at 489 (by decide +kernel) (by decide +kernel)
theorem kv_Wo_add : Cond.selects R_Wo y_Wo_add y_Wo_add ∈ gt := gt_at 490 (by decide +kernel) (by decide +kernel)
theorem ki_Wo_worthOf : Cond.instanceMethod y_Wo_worthOf ∈ gt := gt_at 199 (by decide +kernel) (by decide +kernel)
theorem kv_Wo_worthOf : Cond.selects R_Wo y_Wo_worthOf y_Wo_worthOf ∈ gt := gt_at 200 (by decide +kernel) (by decide +kernel)
theorem ki_Wo_agree : Cond.instanceMethod y_Wo_agree ∈ gt := gt_at 206 (by decide +kernel) (by decide +kernel)
theorem kv_Wo_agree : Cond.selects R_Wo y_Wo_agree y_Wo_agree ∈ gt := gt_at 207 (by decide +kernel) (by decide +kernel)
theorem ki_Wo_lacksNeeded : Cond.instanceMethod y_Wo_lacksNeeded ∈ gt := gt_at 211 (by decide +kernel) (by decide +kernel)
theorem kv_Wo_lacksNeeded : Cond.selects R_Wo y_Wo_lacksNeeded y_Wo_lacksNeeded ∈ gt := gt_at 0 (by decide +kernel) (by decide +kernel)
theorem ki_Wo_spend : Cond.instanceMethod y_Wo_spend ∈ gt := gt_at 214 (by decide +kernel) (by decide +kernel)
theorem kv_Wo_spend : Cond.selects R_Wo y_Wo_spend y_Wo_spend ∈ gt := gt_at 215 (by decide +kernel) (by decide +kernel)
theorem ki_Wo_savedWithEarlier : Cond.instanceMethod y_Wo_savedWithEarlier ∈ gt := gt_at 225 (by decide +kernel) (by decide +kernel)
theorem kv_Wo_savedWithEarlier : Cond.selects R_Wo y_Wo_savedWithEarlier y_Wo_savedWithEarlier ∈ gt := gt_at 1 (by decide +kernel) (by decide +kernel)
theorem ki_Wo_spentOverBudgets : Cond.instanceMethod y_Wo_spentOverBudgets ∈ gt := gt_at 233 (by decide +kernel) (by decide +kernel)
theorem kv_Wo_spentOverBudgets : Cond.selects R_Wo y_Wo_spentOverBudgets y_Wo_spentOverBudgets ∈ gt := gt_at 234 (by decide +kernel) (by decide +kernel)
theorem ki_Wo_spentInAll : Cond.instanceMethod y_Wo_spentInAll ∈ gt := gt_at 230 (by decide +kernel) (by decide +kernel)
theorem kv_Wo_spentInAll : Cond.selects R_Wo y_Wo_spentInAll y_Wo_spentInAll ∈ gt := gt_at 2 (by decide +kernel) (by decide +kernel)
theorem ki_Wo_makeChoice : Cond.instanceMethod y_Wo_makeChoice ∈ gt := gt_at 191 (by decide +kernel) (by decide +kernel)
theorem kv_Wo_makeChoice : Cond.selects R_Wo y_Wo_makeChoice y_Wo_makeChoice ∈ gt := gt_at 192 (by decide +kernel) (by decide +kernel)
theorem ki_Ye_init : Cond.instanceMethod y_Ye_init ∈ gt := gt_at 55 (by decide +kernel) (by decide +kernel)
theorem ki_Ye_has : Cond.instanceMethod y_Ye_has ∈ gt := gt_at 306 (by decide +kernel) (by decide +kernel)
theorem kv_Ye_has : Cond.selects R_Ye y_Ye_has y_Ye_has ∈ gt := gt_at 307 (by decide +kernel) (by decide +kernel)
theorem ki_Ye_costIn : Cond.instanceMethod y_Ye_costIn ∈ gt := gt_at 219 (by decide +kernel) (by decide +kernel)
theorem kv_Ye_costIn : Cond.selects R_Ye y_Ye_costIn y_Ye_costIn ∈ gt := gt_at 220 (by decide +kernel) (by decide +kernel)
theorem ks_La_cell : Cond.static y_La_cell ∈ gt := gt_at 295 (by decide +kernel) (by decide +kernel)
theorem ks_La_index : Cond.static y_La_index ∈ gt := gt_at 298 (by decide +kernel) (by decide +kernel)
theorem ks_La_budget : Cond.static y_La_budget ∈ gt := gt_at 383 (by decide +kernel) (by decide +kernel)
theorem ks_La_part : Cond.static y_La_part ∈ gt := gt_at 391 (by decide +kernel) (by decide +kernel)
theorem ks_La_moves : Cond.static y_La_moves ∈ gt := gt_at 426 (by decide +kernel) (by decide +kernel)
theorem ks_La_care : Cond.static y_La_care ∈ gt := gt_at 443 (by decide +kernel) (by decide +kernel)
theorem ks_La_share : Cond.static y_La_share ∈ gt := gt_at 450 (by decide +kernel) (by decide +kernel)
theorem ks_La_cares : Cond.static y_La_cares ∈ gt := gt_at 462 (by decide +kernel) (by decide +kernel)
theorem ks_La_most : Cond.static y_La_most ∈ gt := gt_at 470 (by decide +kernel) (by decide +kernel)
theorem ks_La_work : Cond.static y_La_work ∈ gt := gt_at 481 (by decide +kernel) (by decide +kernel)
theorem ks_La_join : Cond.static y_La_join ∈ gt := gt_at 493 (by decide +kernel) (by decide +kernel)
theorem ks_La_clash : Cond.static y_La_clash ∈ gt := gt_at 504 (by decide +kernel) (by decide +kernel)
theorem ks_La_needs : Cond.static y_La_needs ∈ gt := gt_at 511 (by decide +kernel) (by decide +kernel)
theorem ks_La_chosen : Cond.static y_La_chosen ∈ gt := gt_at 518 (by decide +kernel) (by decide +kernel)
theorem ks_La_costs : Cond.static y_La_costs ∈ gt := gt_at 525 (by decide +kernel) (by decide +kernel)
theorem ks_La_money : Cond.static y_La_money ∈ gt := gt_at 532 (by decide +kernel) (by decide +kernel)
theorem ks_La_reserve : Cond.static y_La_reserve ∈ gt := gt_at 539 (by decide +kernel) (by decide +kernel)
theorem ks_La_payment : Cond.static y_La_payment ∈ gt := gt_at 546 (by decide +kernel) (by decide +kernel)
theorem ks_La_rest : Cond.static y_La_rest ∈ gt := gt_at 568 (by decide +kernel) (by decide +kernel)
theorem ks_Ar_fillI : Cond.static y_Ar_fillI ∈ gt := gt_at 59 (by decide +kernel) (by decide +kernel)
theorem ks_Ar_fillJ : Cond.static y_Ar_fillJ ∈ gt := gt_at 276 (by decide +kernel) (by decide +kernel)
theorem ks_Ma_maxI : Cond.static y_Ma_maxI ∈ gt := gt_at 52 (by decide +kernel) (by decide +kernel)
theorem ks_Ma_minI : Cond.static y_Ma_minI ∈ gt := gt_at 49 (by decide +kernel) (by decide +kernel)
theorem ks_Ma_maxJ : Cond.static y_Ma_maxJ ∈ gt := gt_at 565 (by decide +kernel) (by decide +kernel)
theorem kt_La_8 : Cond.classLink R_La 8 R_CY ∈ gt := gt_at 38 (by decide +kernel) (by decide +kernel)
theorem kb_CY : Cond.instantiable R_CY 6 ∈ gt := gt_at 39 (by decide +kernel) (by decide +kernel)
theorem kl_La_82 : Cond.methodLink R_La 82 y_CY_init ∈ gt := gt_at 40 (by decide +kernel) (by decide +kernel)
theorem kl_CY_1 : Cond.methodLink R_CY 1 objectInit ∈ gt := gt_at 43 (by decide +kernel) (by decide +kernel)
theorem kt_CY_7 : Cond.classLink R_CY 7 R_Ye ∈ gt := gt_at 46 (by decide +kernel) (by decide +kernel)
theorem kb_Ye : Cond.instantiable R_Ye 3 ∈ gt := gt_at 47 (by decide +kernel) (by decide +kernel)
theorem kl_CY_9 : Cond.methodLink R_CY 9 y_Ma_minI ∈ gt := gt_at 48 (by decide +kernel) (by decide +kernel)
theorem kl_CY_15 : Cond.methodLink R_CY 15 y_Ma_maxI ∈ gt := gt_at 51 (by decide +kernel) (by decide +kernel)
theorem kl_CY_18 : Cond.methodLink R_CY 18 y_Ye_init ∈ gt := gt_at 54 (by decide +kernel) (by decide +kernel)
theorem kl_Ye_1 : Cond.methodLink R_Ye 1 objectInit ∈ gt := gt_at 57 (by decide +kernel) (by decide +kernel)
theorem kl_Ye_20 : Cond.methodLink R_Ye 20 y_Ar_fillI ∈ gt := gt_at 58 (by decide +kernel) (by decide +kernel)
theorem kf_Ye_16 : Cond.fieldLink R_Ye 16 "CostYears$Years" "count" "I" ∈ gt := gt_at 61 (by decide +kernel) (by decide +kernel)
theorem kf_Wo_68 : Cond.fieldLink R_Wo 68 "CostYears$Years" "count" "I" ∈ gt := gt_at 62 (by decide +kernel) (by decide +kernel)
theorem kf_CY_170 : Cond.fieldLink R_CY 170 "CostYears$Years" "count" "I" ∈ gt := gt_at 63 (by decide +kernel) (by decide +kernel)
theorem kf_Ye_9 : Cond.fieldLink R_Ye 9 "CostYears$Years" "indexes" "[I" ∈ gt := gt_at 64 (by decide +kernel) (by decide +kernel)
theorem kf_CY_59 : Cond.fieldLink R_CY 59 "CostYears$Years" "indexes" "[I" ∈ gt := gt_at 65 (by decide +kernel) (by decide +kernel)
theorem kf_Ye_13 : Cond.fieldLink R_Ye 13 "CostYears$Years" "budgets" "[I" ∈ gt := gt_at 66 (by decide +kernel) (by decide +kernel)
theorem kf_CY_64 : Cond.fieldLink R_CY 64 "CostYears$Years" "budgets" "[I" ∈ gt := gt_at 67 (by decide +kernel) (by decide +kernel)
theorem kf_Wo_74 : Cond.fieldLink R_Wo 74 "CostYears$Years" "budgets" "[I" ∈ gt := gt_at 68 (by decide +kernel) (by decide +kernel)
theorem kt_CY_27 : Cond.classLink R_CY 27 R_Pa ∈ gt := gt_at 77 (by decide +kernel) (by decide +kernel)
theorem kb_Pa : Cond.instantiable R_Pa 9 ∈ gt := gt_at 78 (by decide +kernel) (by decide +kernel)
theorem kl_Pa_1 : Cond.methodLink R_Pa 1 objectInit ∈ gt := gt_at 82 (by decide +kernel) (by decide +kernel)
theorem kt_Pa_16 : Cond.classLink R_Pa 16 "[[I" ∈ gt := gt_at 83 (by decide +kernel) (by decide +kernel)
theorem kf_Pa_34 : Cond.fieldLink R_Pa 34 "CostYears$Parts" "count" "I" ∈ gt := gt_at 85 (by decide +kernel) (by decide +kernel)
theorem kf_CY_67 : Cond.fieldLink R_CY 67 "CostYears$Parts" "count" "I" ∈ gt := gt_at 86 (by decide +kernel) (by decide +kernel)
theorem kf_Pa_9 : Cond.fieldLink R_Pa 9 "CostYears$Parts" "states" "[I" ∈ gt := gt_at 87 (by decide +kernel) (by decide +kernel)
theorem kf_Pa_13 : Cond.fieldLink R_Pa 13 "CostYears$Parts" "starts" "[I" ∈ gt := gt_at 88 (by decide +kernel) (by decide +kernel)
theorem kf_Pa_18 : Cond.fieldLink R_Pa 18 "CostYears$Parts" "sixteenths" "[[I" ∈ gt := gt_at 89 (by decide +kernel) (by decide +kernel)
theorem kf_Pa_21 : Cond.fieldLink R_Pa 21 "CostYears$Parts" "takes" "[[I" ∈ gt := gt_at 90 (by decide +kernel) (by decide +kernel)
theorem kf_CY_89 : Cond.fieldLink R_CY 89 "CostYears$Parts" "takes" "[[I" ∈ gt := gt_at 91 (by decide +kernel) (by decide +kernel)
theorem kf_Pa_24 : Cond.fieldLink R_Pa 24 "CostYears$Parts" "renewals" "[I" ∈ gt := gt_at 92 (by decide +kernel) (by decide +kernel)
theorem kf_CY_195 : Cond.fieldLink R_CY 195 "CostYears$Parts" "renewals" "[I" ∈ gt := gt_at 93 (by decide +kernel) (by decide +kernel)
theorem kf_Pa_27 : Cond.fieldLink R_Pa 27 "CostYears$Parts" "shares" "[J" ∈ gt := gt_at 94 (by decide +kernel) (by decide +kernel)
theorem kf_CY_97 : Cond.fieldLink R_CY 97 "CostYears$Parts" "shares" "[J" ∈ gt := gt_at 95 (by decide +kernel) (by decide +kernel)
theorem kf_Pa_31 : Cond.fieldLink R_Pa 31 "CostYears$Parts" "sharesNext" "[J" ∈ gt := gt_at 96 (by decide +kernel) (by decide +kernel)
theorem kf_Pa_69 : Cond.fieldLink R_Pa 69 "CostYears$Parts" "yearsWorn" "I" ∈ gt := gt_at 97 (by decide +kernel) (by decide +kernel)
theorem kt_CY_34 : Cond.classLink R_CY 34 R_Wo ∈ gt := gt_at 118 (by decide +kernel) (by decide +kernel)
theorem kb_Wo : Cond.instantiable R_Wo 11 ∈ gt := gt_at 119 (by decide +kernel) (by decide +kernel)
theorem kl_CY_36 : Cond.methodLink R_CY 36 y_Wo_init ∈ gt := gt_at 120 (by decide +kernel) (by decide +kernel)
theorem kl_Wo_3 : Cond.methodLink R_Wo 3 objectInit ∈ gt := gt_at 123 (by decide +kernel) (by decide +kernel)
theorem kt_Wo_30 : Cond.classLink R_Wo 30 "[[I" ∈ gt := gt_at 124 (by decide +kernel) (by decide +kernel)
theorem kf_Wo_40 : Cond.fieldLink R_Wo 40 "CostYears$Works" "years" "LCostYears$Years;" ∈ gt := gt_at 125 (by decide +kernel) (by decide +kernel)
theorem kf_Wo_44 : Cond.fieldLink R_Wo 44 "CostYears$Works" "count" "I" ∈ gt := gt_at 126 (by decide +kernel) (by decide +kernel)
theorem kf_CY_112 : Cond.fieldLink R_CY 112 "CostYears$Works" "count" "I" ∈ gt := gt_at 127 (by decide +kernel) (by decide +kernel)
theorem kf_Wo_11 : Cond.fieldLink R_Wo 11 "CostYears$Works" "yearOf" "[I" ∈ gt := gt_at 128 (by decide +kernel) (by decide +kernel)
theorem kf_CY_207 : Cond.fieldLink R_CY 207 "CostYears$Works" "yearOf" "[I" ∈ gt := gt_at 129 (by decide +kernel) (by decide +kernel)
theorem kf_Wo_15 : Cond.fieldLink R_Wo 15 "CostYears$Works" "cents" "[I" ∈ gt := gt_at 130 (by decide +kernel) (by decide +kernel)
theorem kf_Wo_18 : Cond.fieldLink R_Wo 18 "CostYears$Works" "worth" "[I" ∈ gt := gt_at 131 (by decide +kernel) (by decide +kernel)
theorem kf_Wo_21 : Cond.fieldLink R_Wo 21 "CostYears$Works" "partOf" "[I" ∈ gt := gt_at 132 (by decide +kernel) (by decide +kernel)
theorem kf_CY_204 : Cond.fieldLink R_CY 204 "CostYears$Works" "partOf" "[I" ∈ gt := gt_at 133 (by decide +kernel) (by decide +kernel)
theorem kf_Wo_24 : Cond.fieldLink R_Wo 24 "CostYears$Works" "needed" "[I" ∈ gt := gt_at 134 (by decide +kernel) (by decide +kernel)
theorem kf_CY_130 : Cond.fieldLink R_CY 130 "CostYears$Works" "needed" "[I" ∈ gt := gt_at 135 (by decide +kernel) (by decide +kernel)
theorem kf_Wo_27 : Cond.fieldLink R_Wo 27 "CostYears$Works" "clashing" "[I" ∈ gt := gt_at 136 (by decide +kernel) (by decide +kernel)
theorem kf_CY_120 : Cond.fieldLink R_CY 120 "CostYears$Works" "clashing" "[I" ∈ gt := gt_at 137 (by decide +kernel) (by decide +kernel)
theorem kf_Wo_32 : Cond.fieldLink R_Wo 32 "CostYears$Works" "saves" "[[I" ∈ gt := gt_at 138 (by decide +kernel) (by decide +kernel)
theorem kf_CY_117 : Cond.fieldLink R_CY 117 "CostYears$Works" "saves" "[[I" ∈ gt := gt_at 139 (by decide +kernel) (by decide +kernel)
theorem kf_Wo_99 : Cond.fieldLink R_Wo 99 "CostYears$Works" "made" "I" ∈ gt := gt_at 140 (by decide +kernel) (by decide +kernel)
theorem kf_CY_139 : Cond.fieldLink R_CY 139 "CostYears$Works" "made" "I" ∈ gt := gt_at 141 (by decide +kernel) (by decide +kernel)
theorem kf_Wo_37 : Cond.fieldLink R_Wo 37 "CostYears$Works" "spent" "[I" ∈ gt := gt_at 142 (by decide +kernel) (by decide +kernel)
theorem kf_CY_148 : Cond.fieldLink R_CY 148 "CostYears$Works" "spent" "[I" ∈ gt := gt_at 143 (by decide +kernel) (by decide +kernel)
theorem kf_CY_21 : Cond.fieldLink R_CY 21 "CostYears" "years" "LCostYears$Years;" ∈ gt := gt_at 167 (by decide +kernel) (by decide +kernel)
theorem kf_CY_30 : Cond.fieldLink R_CY 30 "CostYears" "parts" "LCostYears$Parts;" ∈ gt := gt_at 168 (by decide +kernel) (by decide +kernel)
theorem kf_CY_39 : Cond.fieldLink R_CY 39 "CostYears" "works" "LCostYears$Works;" ∈ gt := gt_at 169 (by decide +kernel) (by decide +kernel)
theorem kf_CY_43 : Cond.fieldLink R_CY 43 "CostYears" "reserves" "[J" ∈ gt := gt_at 170 (by decide +kernel) (by decide +kernel)
theorem kf_CY_161 : Cond.fieldLink R_CY 161 "CostYears" "beginning" "I" ∈ gt := gt_at 171 (by decide +kernel) (by decide +kernel)
theorem kf_CY_164 : Cond.fieldLink R_CY 164 "CostYears" "deposit" "I" ∈ gt := gt_at 172 (by decide +kernel) (by decide +kernel)
theorem kl_La_132 : Cond.methodLink R_La 132 y_CY_choose ∈ gt := gt_at 186 (by decide +kernel) (by decide +kernel)
theorem kl_CY_133 : Cond.methodLink R_CY 133 y_Wo_makeChoice ∈ gt := gt_at 190 (by decide +kernel) (by decide +kernel)
theorem kl_Wo_77 : Cond.methodLink R_Wo 77 y_Wo_all ∈ gt := gt_at 194 (by decide +kernel) (by decide +kernel)
theorem kl_Wo_81 : Cond.methodLink R_Wo 81 y_Wo_worthOf ∈ gt := gt_at 198 (by decide +kernel) (by decide +kernel)
theorem kl_Wo_85 : Cond.methodLink R_Wo 85 y_Wo_agree ∈ gt := gt_at 205 (by decide +kernel) (by decide +kernel)
theorem kl_Wo_52 : Cond.methodLink R_Wo 52 y_Wo_lacksNeeded ∈ gt := gt_at 209 (by decide +kernel) (by decide +kernel)
theorem kl_Wo_89 : Cond.methodLink R_Wo 89 y_Wo_spend ∈ gt := gt_at 213 (by decide +kernel) (by decide +kernel)
theorem kl_Wo_55 : Cond.methodLink R_Wo 55 y_Ar_fillI ∈ gt := gt_at 217 (by decide +kernel) (by decide +kernel)
theorem kl_Wo_61 : Cond.methodLink R_Wo 61 y_Ye_costIn ∈ gt := gt_at 218 (by decide +kernel) (by decide +kernel)
theorem kk_Ye_26 : Cond.constantLong R_Ye 26 (1000) ∈ gt := gt_at 222 (by decide +kernel) (by decide +kernel)
theorem kl_Wo_65 : Cond.methodLink R_Wo 65 y_Wo_savedWithEarlier ∈ gt := gt_at 223 (by decide +kernel) (by decide +kernel)
theorem kl_Wo_69 : Cond.methodLink R_Wo 69 y_Ma_maxI ∈ gt := gt_at 227 (by decide +kernel) (by decide +kernel)
theorem kl_Wo_93 : Cond.methodLink R_Wo 93 y_Wo_spentInAll ∈ gt := gt_at 228 (by decide +kernel) (by decide +kernel)
theorem kl_Wo_96 : Cond.methodLink R_Wo 96 y_Wo_spentOverBudgets ∈ gt := gt_at 232 (by decide +kernel) (by decide +kernel)
theorem kl_CY_136 : Cond.methodLink R_CY 136 y_CY_renewParts ∈ gt := gt_at 236 (by decide +kernel) (by decide +kernel)
theorem kl_CY_198 : Cond.methodLink R_CY 198 y_Ar_fillI ∈ gt := gt_at 240 (by decide +kernel) (by decide +kernel)
theorem kl_CY_123 : Cond.methodLink R_CY 123 y_CY_holds ∈ gt := gt_at 241 (by decide +kernel) (by decide +kernel)
theorem kl_CY_126 : Cond.methodLink R_CY 126 y_CY_withBit ∈ gt := gt_at 242 (by decide +kernel) (by decide +kernel)
theorem kl_CY_142 : Cond.methodLink R_CY 142 y_Wo_worthOf ∈ gt := gt_at 245 (by decide +kernel) (by decide +kernel)
theorem kl_La_143 : Cond.methodLink R_La 143 y_CY_lacks ∈ gt := gt_at 246 (by decide +kernel) (by decide +kernel)
theorem kl_CY_151 : Cond.methodLink R_CY 151 y_Wo_all ∈ gt := gt_at 250 (by decide +kernel) (by decide +kernel)
theorem kl_CY_155 : Cond.methodLink R_CY 155 y_Wo_agree ∈ gt := gt_at 251 (by decide +kernel) (by decide +kernel)
theorem kl_CY_145 : Cond.methodLink R_CY 145 y_Wo_spend ∈ gt := gt_at 252 (by decide +kernel) (by decide +kernel)
theorem kl_CY_158 : Cond.methodLink R_CY 158 y_Wo_spentOverBudgets ∈ gt := gt_at 253 (by decide +kernel) (by decide +kernel)
theorem kl_La_154 : Cond.methodLink R_La 154 y_CY_shortIn ∈ gt := gt_at 254 (by decide +kernel) (by decide +kernel)
theorem kl_CY_167 : Cond.methodLink R_CY 167 y_CY_reckonReserves ∈ gt := gt_at 258 (by decide +kernel) (by decide +kernel)
theorem kl_CY_210 : Cond.methodLink R_CY 210 y_CY_takeCareFromReserves ∈ gt := gt_at 262 (by decide +kernel) (by decide +kernel)
theorem kl_CY_213 : Cond.methodLink R_CY 213 y_Pa_enter ∈ gt := gt_at 266 (by decide +kernel) (by decide +kernel)
theorem kl_Pa_56 : Cond.methodLink R_Pa 56 y_Pa_begin ∈ gt := gt_at 271 (by decide +kernel) (by decide +kernel)
theorem kl_Pa_63 : Cond.methodLink R_Pa 63 y_Ar_fillJ ∈ gt := gt_at 275 (by decide +kernel) (by decide +kernel)
theorem kl_Pa_60 : Cond.methodLink R_Pa 60 y_Pa_wear ∈ gt := gt_at 278 (by decide +kernel) (by decide +kernel)
theorem kl_Pa_72 : Cond.methodLink R_Pa 72 y_Pa_going ∈ gt := gt_at 282 (by decide +kernel) (by decide +kernel)
theorem kl_Pa_76 : Cond.methodLink R_Pa 76 arraycopyName ∈ gt := gt_at 286 (by decide +kernel) (by decide +kernel)
theorem kl_CY_101 : Cond.methodLink R_CY 101 y_Pa_careTaken ∈ gt := gt_at 289 (by decide +kernel) (by decide +kernel)
theorem kl_CY_105 : Cond.methodLink R_CY 105 y_Ye_costIn ∈ gt := gt_at 293 (by decide +kernel) (by decide +kernel)
theorem kl_La_76 : Cond.methodLink R_La 76 y_La_cell ∈ gt := gt_at 294 (by decide +kernel) (by decide +kernel)
theorem kl_La_88 : Cond.methodLink R_La 88 y_La_index ∈ gt := gt_at 297 (by decide +kernel) (by decide +kernel)
theorem kt_La_13 : Cond.classLink R_La 13 "java/lang/IllegalArgumentException" ∈ gt := gt_at 300 (by decide +kernel) (by decide +kernel)
theorem kl_La_7 : Cond.methodLink R_La 7 y_CY_index ∈ gt := gt_at 301 (by decide +kernel) (by decide +kernel)
theorem kl_CY_47 : Cond.methodLink R_CY 47 y_Ye_has ∈ gt := gt_at 305 (by decide +kernel) (by decide +kernel)
theorem kl_CY_51 : Cond.methodLink R_CY 51 y_CY_isWithin ∈ gt := gt_at 309 (by decide +kernel) (by decide +kernel)
theorem kl_CY_55 : Cond.methodLink R_CY 55 y_CY_refuseUnless ∈ gt := gt_at 312 (by decide +kernel) (by decide +kernel)
theorem kt_CY_183 : Cond.classLink R_CY 183 "java/lang/IllegalArgumentException" ∈ gt := gt_at 315 (by decide +kernel) (by decide +kernel)
theorem kl_La_96 : Cond.methodLink R_La 96 y_La_budget ∈ gt := gt_at 382 (by decide +kernel) (by decide +kernel)
theorem kl_La_15 : Cond.methodLink R_La 15 y_CY_budget ∈ gt := gt_at 385 (by decide +kernel) (by decide +kernel)
theorem kk_CY_63 : Cond.constant R_CY 63 (1000000000) ∈ gt := gt_at 389 (by decide +kernel) (by decide +kernel)
theorem kl_La_99 : Cond.methodLink R_La 99 y_La_part ∈ gt := gt_at 390 (by decide +kernel) (by decide +kernel)
theorem kt_La_21 : Cond.classLink R_La 21 "java/lang/IllegalStateException" ∈ gt := gt_at 393 (by decide +kernel) (by decide +kernel)
theorem kl_La_18 : Cond.methodLink R_La 18 y_CY_part ∈ gt := gt_at 394 (by decide +kernel) (by decide +kernel)
theorem kl_CY_71 : Cond.methodLink R_CY 71 y_CY_refuseIfFull ∈ gt := gt_at 398 (by decide +kernel) (by decide +kernel)
theorem kt_CY_190 : Cond.classLink R_CY 190 "java/lang/IllegalStateException" ∈ gt := gt_at 401 (by decide +kernel) (by decide +kernel)
theorem kl_CY_74 : Cond.methodLink R_CY 74 y_Pa_add ∈ gt := gt_at 417 (by decide +kernel) (by decide +kernel)
theorem kl_Pa_42 : Cond.methodLink R_Pa 42 y_Pa_setGoing ∈ gt := gt_at 421 (by decide +kernel) (by decide +kernel)
theorem kl_La_102 : Cond.methodLink R_La 102 y_La_moves ∈ gt := gt_at 425 (by decide +kernel) (by decide +kernel)
theorem kl_La_23 : Cond.methodLink R_La 23 y_CY_moves ∈ gt := gt_at 428 (by decide +kernel) (by decide +kernel)
theorem kl_CY_77 : Cond.methodLink R_CY 77 y_Pa_hasState ∈ gt := gt_at 432 (by decide +kernel) (by decide +kernel)
theorem kl_Pa_38 : Cond.methodLink R_Pa 38 y_Pa_has ∈ gt := gt_at 436 (by decide +kernel) (by decide +kernel)
theorem kl_CY_81 : Cond.methodLink R_CY 81 y_Pa_going ∈ gt := gt_at 440 (by decide +kernel) (by decide +kernel)
theorem kl_CY_85 : Cond.methodLink R_CY 85 y_Pa_setGoing ∈ gt := gt_at 441 (by decide +kernel) (by decide +kernel)
theorem kl_La_106 : Cond.methodLink R_La 106 y_La_care ∈ gt := gt_at 442 (by decide +kernel) (by decide +kernel)
theorem kl_La_27 : Cond.methodLink R_La 27 y_CY_care ∈ gt := gt_at 445 (by decide +kernel) (by decide +kernel)
theorem kl_La_110 : Cond.methodLink R_La 110 y_La_share ∈ gt := gt_at 449 (by decide +kernel) (by decide +kernel)
theorem kl_La_31 : Cond.methodLink R_La 31 y_CY_share ∈ gt := gt_at 452 (by decide +kernel) (by decide +kernel)
theorem kl_CY_93 : Cond.methodLink R_CY 93 y_Pa_goTo ∈ gt := gt_at 456 (by decide +kernel) (by decide +kernel)
theorem kl_Pa_46 : Cond.methodLink R_Pa 46 y_Pa_enter ∈ gt := gt_at 460 (by decide +kernel) (by decide +kernel)
theorem kl_La_113 : Cond.methodLink R_La 113 y_La_cares ∈ gt := gt_at 461 (by decide +kernel) (by decide +kernel)
theorem kl_La_35 : Cond.methodLink R_La 35 y_CY_cares ∈ gt := gt_at 464 (by decide +kernel) (by decide +kernel)
theorem kl_CY_100 : Cond.methodLink R_CY 100 y_Pa_has ∈ gt := gt_at 468 (by decide +kernel) (by decide +kernel)
theorem kl_La_116 : Cond.methodLink R_La 116 y_La_most ∈ gt := gt_at 469 (by decide +kernel) (by decide +kernel)
theorem kl_La_38 : Cond.methodLink R_La 38 y_CY_most ∈ gt := gt_at 472 (by decide +kernel) (by decide +kernel)
theorem kl_CY_108 : Cond.methodLink R_CY 108 y_Pa_greatestState ∈ gt := gt_at 476 (by decide +kernel) (by decide +kernel)
theorem kl_La_119 : Cond.methodLink R_La 119 y_La_work ∈ gt := gt_at 480 (by decide +kernel) (by decide +kernel)
theorem kl_La_41 : Cond.methodLink R_La 41 y_CY_work ∈ gt := gt_at 483 (by decide +kernel) (by decide +kernel)
theorem kk_CY_111 : Cond.constant R_CY 111 (1000000) ∈ gt := gt_at 487 (by decide +kernel) (by decide +kernel)
theorem kl_CY_113 : Cond.methodLink R_CY 113 y_Wo_add ∈ gt := gt_at 488 (by decide +kernel) (by decide +kernel)
theorem kl_La_122 : Cond.methodLink R_La 122 y_La_join ∈ gt := gt_at 492 (by decide +kernel) (by decide +kernel)
theorem kl_La_44 : Cond.methodLink R_La 44 y_CY_join ∈ gt := gt_at 495 (by decide +kernel) (by decide +kernel)
theorem kl_CY_116 : Cond.methodLink R_CY 116 y_Wo_has ∈ gt := gt_at 499 (by decide +kernel) (by decide +kernel)
theorem kl_La_125 : Cond.methodLink R_La 125 y_La_clash ∈ gt := gt_at 503 (by decide +kernel) (by decide +kernel)
theorem kl_La_47 : Cond.methodLink R_La 47 y_CY_clash ∈ gt := gt_at 506 (by decide +kernel) (by decide +kernel)
theorem kl_La_129 : Cond.methodLink R_La 129 y_La_needs ∈ gt := gt_at 510 (by decide +kernel) (by decide +kernel)
theorem kl_La_51 : Cond.methodLink R_La 51 y_CY_needs ∈ gt := gt_at 513 (by decide +kernel) (by decide +kernel)
theorem kl_La_136 : Cond.methodLink R_La 136 y_La_chosen ∈ gt := gt_at 517 (by decide +kernel) (by decide +kernel)
theorem kl_La_54 : Cond.methodLink R_La 54 y_CY_chosen ∈ gt := gt_at 520 (by decide +kernel) (by decide +kernel)
theorem kl_La_140 : Cond.methodLink R_La 140 y_La_costs ∈ gt := gt_at 524 (by decide +kernel) (by decide +kernel)
theorem kl_La_58 : Cond.methodLink R_La 58 y_CY_costs ∈ gt := gt_at 527 (by decide +kernel) (by decide +kernel)
theorem kl_La_147 : Cond.methodLink R_La 147 y_La_money ∈ gt := gt_at 531 (by decide +kernel) (by decide +kernel)
theorem kl_La_62 : Cond.methodLink R_La 62 y_CY_money ∈ gt := gt_at 534 (by decide +kernel) (by decide +kernel)
theorem kl_La_151 : Cond.methodLink R_La 151 y_La_reserve ∈ gt := gt_at 538 (by decide +kernel) (by decide +kernel)
theorem kl_La_66 : Cond.methodLink R_La 66 y_CY_reserve ∈ gt := gt_at 541 (by decide +kernel) (by decide +kernel)
theorem kl_La_158 : Cond.methodLink R_La 158 y_La_payment ∈ gt := gt_at 545 (by decide +kernel) (by decide +kernel)
theorem kl_La_70 : Cond.methodLink R_La 70 y_CY_payment ∈ gt := gt_at 548 (by decide +kernel) (by decide +kernel)
theorem kl_CY_171 : Cond.methodLink R_CY 171 y_Lo_isOne ∈ gt := gt_at 552 (by decide +kernel) (by decide +kernel)
theorem kk_Lo_9 : Cond.constant R_Lo 9 (1000000000) ∈ gt := gt_at 555 (by decide +kernel) (by decide +kernel)
theorem kl_CY_176 : Cond.methodLink R_CY 176 y_Lo_leastPayment ∈ gt := gt_at 557 (by decide +kernel) (by decide +kernel)
theorem kl_Lo_24 : Cond.methodLink R_Lo 24 y_Lo_restBehind ∈ gt := gt_at 560 (by decide +kernel) (by decide +kernel)
theorem kk_Lo_16 : Cond.constantLong R_Lo 16 (10000) ∈ gt := gt_at 563 (by decide +kernel) (by decide +kernel)
theorem kl_Lo_18 : Cond.methodLink R_Lo 18 y_Ma_maxJ ∈ gt := gt_at 564 (by decide +kernel) (by decide +kernel)
theorem kl_La_161 : Cond.methodLink R_La 161 y_La_rest ∈ gt := gt_at 567 (by decide +kernel) (by decide +kernel)
theorem kl_La_73 : Cond.methodLink R_La 73 y_CY_rest ∈ gt := gt_at 570 (by decide +kernel) (by decide +kernel)
theorem kl_CY_179 : Cond.methodLink R_CY 179 y_Lo_restBehind ∈ gt := gt_at 574 (by decide +kernel) (by decide +kernel)
theorem kt_La_85 : Cond.classLink R_La 85 R_Mo ∈ gt := gt_at 575 (by decide +kernel) (by decide +kernel)
theorem kb_Mo : Cond.instantiable R_Mo 23 ∈ gt := gt_at 576 (by decide +kernel) (by decide +kernel)
theorem kl_La_87 : Cond.methodLink R_La 87 y_Mo_init ∈ gt := gt_at 577 (by decide +kernel) (by decide +kernel)
theorem kl_Mo_1 : Cond.methodLink R_Mo 1 objectInit ∈ gt := gt_at 580 (by decide +kernel) (by decide +kernel)
theorem kf_Mo_61 : Cond.fieldLink R_Mo 61 "CostYearsModel" "thrown" "I" ∈ gt := gt_at 581 (by decide +kernel) (by decide +kernel)
theorem kf_Mo_57 : Cond.fieldLink R_Mo 57 "CostYearsModel" "years" "I" ∈ gt := gt_at 582 (by decide +kernel) (by decide +kernel)
theorem kf_Mo_7 : Cond.fieldLink R_Mo 7 "CostYearsModel" "indexes" "[I" ∈ gt := gt_at 583 (by decide +kernel) (by decide +kernel)
theorem kf_Mo_13 : Cond.fieldLink R_Mo 13 "CostYearsModel" "budgets" "[I" ∈ gt := gt_at 584 (by decide +kernel) (by decide +kernel)
theorem kf_Mo_68 : Cond.fieldLink R_Mo 68 "CostYearsModel" "parts" "I" ∈ gt := gt_at 585 (by decide +kernel) (by decide +kernel)
theorem kf_Mo_16 : Cond.fieldLink R_Mo 16 "CostYearsModel" "states" "[I" ∈ gt := gt_at 586 (by decide +kernel) (by decide +kernel)
theorem kf_Mo_19 : Cond.fieldLink R_Mo 19 "CostYearsModel" "starts" "[I" ∈ gt := gt_at 587 (by decide +kernel) (by decide +kernel)
theorem kf_Mo_22 : Cond.fieldLink R_Mo 22 "CostYearsModel" "goes" "[I" ∈ gt := gt_at 588 (by decide +kernel) (by decide +kernel)
theorem kf_Mo_25 : Cond.fieldLink R_Mo 25 "CostYearsModel" "cares" "[I" ∈ gt := gt_at 589 (by decide +kernel) (by decide +kernel)
theorem kf_Mo_75 : Cond.fieldLink R_Mo 75 "CostYearsModel" "works" "I" ∈ gt := gt_at 590 (by decide +kernel) (by decide +kernel)
theorem kf_Mo_28 : Cond.fieldLink R_Mo 28 "CostYearsModel" "workYears" "[I" ∈ gt := gt_at 591 (by decide +kernel) (by decide +kernel)
theorem kf_Mo_31 : Cond.fieldLink R_Mo 31 "CostYearsModel" "cents" "[I" ∈ gt := gt_at 592 (by decide +kernel) (by decide +kernel)
theorem kf_Mo_34 : Cond.fieldLink R_Mo 34 "CostYearsModel" "worths" "[I" ∈ gt := gt_at 593 (by decide +kernel) (by decide +kernel)
theorem kf_Mo_37 : Cond.fieldLink R_Mo 37 "CostYearsModel" "renews" "[I" ∈ gt := gt_at 594 (by decide +kernel) (by decide +kernel)
theorem kf_Mo_40 : Cond.fieldLink R_Mo 40 "CostYearsModel" "needed" "[I" ∈ gt := gt_at 595 (by decide +kernel) (by decide +kernel)
theorem kf_Mo_43 : Cond.fieldLink R_Mo 43 "CostYearsModel" "saves" "[I" ∈ gt := gt_at 596 (by decide +kernel) (by decide +kernel)
theorem kf_Mo_46 : Cond.fieldLink R_Mo 46 "CostYearsModel" "clashes" "[Z" ∈ gt := gt_at 597 (by decide +kernel) (by decide +kernel)
theorem kf_Mo_106 : Cond.fieldLink R_Mo 106 "CostYearsModel" "chosen" "I" ∈ gt := gt_at 598 (by decide +kernel) (by decide +kernel)
theorem kf_Mo_144 : Cond.fieldLink R_Mo 144 "CostYearsModel" "beginning" "J" ∈ gt := gt_at 599 (by decide +kernel) (by decide +kernel)
theorem kf_Mo_147 : Cond.fieldLink R_Mo 147 "CostYearsModel" "deposit" "J" ∈ gt := gt_at 600 (by decide +kernel) (by decide +kernel)
theorem kf_Mo_50 : Cond.fieldLink R_Mo 50 "CostYearsModel" "shares" "[J" ∈ gt := gt_at 601 (by decide +kernel) (by decide +kernel)
theorem kf_Mo_54 : Cond.fieldLink R_Mo 54 "CostYearsModel" "next" "[J" ∈ gt := gt_at 602 (by decide +kernel) (by decide +kernel)
theorem kf_Mo_130 : Cond.fieldLink R_Mo 130 "CostYearsModel" "spent" "J" ∈ gt := gt_at 603 (by decide +kernel) (by decide +kernel)
theorem kl_La_92 : Cond.methodLink R_La 92 y_Mo_thrown ∈ gt := gt_at 652 (by decide +kernel) (by decide +kernel)
theorem kl_La_91 : Cond.methodLink R_La 91 y_Mo_index ∈ gt := gt_at 656 (by decide +kernel) (by decide +kernel)
theorem kl_Mo_78 : Cond.methodLink R_Mo 78 y_Mo_isYear ∈ gt := gt_at 660 (by decide +kernel) (by decide +kernel)
theorem kl_Mo_64 : Cond.methodLink R_Mo 64 y_Mo_within ∈ gt := gt_at 664 (by decide +kernel) (by decide +kernel)
theorem kk_Mo_81 : Cond.constantLong R_Mo 81 (500) ∈ gt := gt_at 667 (by decide +kernel) (by decide +kernel)
theorem kk_Mo_83 : Cond.constantLong R_Mo 83 (2000) ∈ gt := gt_at 668 (by decide +kernel) (by decide +kernel)
theorem kl_Mo_85 : Cond.methodLink R_Mo 85 y_Mo_refuses ∈ gt := gt_at 669 (by decide +kernel) (by decide +kernel)
theorem kl_La_98 : Cond.methodLink R_La 98 y_Mo_budget ∈ gt := gt_at 673 (by decide +kernel) (by decide +kernel)
theorem kk_Mo_88 : Cond.constantLong R_Mo 88 (1000000000) ∈ gt := gt_at 677 (by decide +kernel) (by decide +kernel)
theorem kl_La_101 : Cond.methodLink R_La 101 y_Mo_part ∈ gt := gt_at 678 (by decide +kernel) (by decide +kernel)
theorem kk_Mo_90 : Cond.constantLong R_Mo 90 (2) ∈ gt := gt_at 682 (by decide +kernel) (by decide +kernel)
theorem kk_Mo_92 : Cond.constantLong R_Mo 92 (4) ∈ gt := gt_at 683 (by decide +kernel) (by decide +kernel)
theorem kl_La_105 : Cond.methodLink R_La 105 y_Mo_moves ∈ gt := gt_at 684 (by decide +kernel) (by decide +kernel)
theorem kl_Mo_94 : Cond.methodLink R_Mo 94 y_Mo_isState ∈ gt := gt_at 688 (by decide +kernel) (by decide +kernel)
theorem kl_Mo_71 : Cond.methodLink R_Mo 71 y_Mo_isPart ∈ gt := gt_at 692 (by decide +kernel) (by decide +kernel)
theorem kk_Mo_98 : Cond.constantLong R_Mo 98 (16) ∈ gt := gt_at 696 (by decide +kernel) (by decide +kernel)
theorem kl_Mo_100 : Cond.methodLink R_Mo 100 y_Mo_leaving ∈ gt := gt_at 697 (by decide +kernel) (by decide +kernel)
theorem kl_La_109 : Cond.methodLink R_La 109 y_Mo_care ∈ gt := gt_at 701 (by decide +kernel) (by decide +kernel)
theorem kk_Mo_104 : Cond.constantLong R_Mo 104 (1000) ∈ gt := gt_at 705 (by decide +kernel) (by decide +kernel)
theorem kl_La_112 : Cond.methodLink R_La 112 y_Mo_share ∈ gt := gt_at 706 (by decide +kernel) (by decide +kernel)
theorem kl_Mo_112 : Cond.methodLink R_Mo 112 y_Mo_learn ∈ gt := gt_at 710 (by decide +kernel) (by decide +kernel)
theorem kl_Mo_109 : Cond.methodLink R_Mo 109 y_Mo_begins ∈ gt := gt_at 714 (by decide +kernel) (by decide +kernel)
theorem kl_La_115 : Cond.methodLink R_La 115 y_Mo_cares ∈ gt := gt_at 718 (by decide +kernel) (by decide +kernel)
theorem kl_Mo_116 : Cond.methodLink R_Mo 116 y_Mo_careOf ∈ gt := gt_at 722 (by decide +kernel) (by decide +kernel)
theorem kl_La_118 : Cond.methodLink R_La 118 y_Mo_most ∈ gt := gt_at 726 (by decide +kernel) (by decide +kernel)
theorem kl_La_121 : Cond.methodLink R_La 121 y_Mo_work ∈ gt := gt_at 730 (by decide +kernel) (by decide +kernel)
theorem kk_Mo_119 : Cond.constantLong R_Mo 119 (1000000) ∈ gt := gt_at 734 (by decide +kernel) (by decide +kernel)
theorem kl_La_124 : Cond.methodLink R_La 124 y_Mo_join ∈ gt := gt_at 735 (by decide +kernel) (by decide +kernel)
theorem kl_Mo_124 : Cond.methodLink R_Mo 124 y_Mo_areTwo ∈ gt := gt_at 739 (by decide +kernel) (by decide +kernel)
theorem kl_Mo_121 : Cond.methodLink R_Mo 121 y_Mo_isWork ∈ gt := gt_at 743 (by decide +kernel) (by decide +kernel)
theorem kl_La_128 : Cond.methodLink R_La 128 y_Mo_clash ∈ gt := gt_at 747 (by decide +kernel) (by decide +kernel)
theorem kl_La_131 : Cond.methodLink R_La 131 y_Mo_needs ∈ gt := gt_at 751 (by decide +kernel) (by decide +kernel)
theorem kl_La_135 : Cond.methodLink R_La 135 y_Mo_choose ∈ gt := gt_at 755 (by decide +kernel) (by decide +kernel)
theorem kl_Mo_127 : Cond.methodLink R_Mo 127 y_Mo_has ∈ gt := gt_at 759 (by decide +kernel) (by decide +kernel)
theorem kl_Mo_137 : Cond.methodLink R_Mo 137 y_Mo_goesTogether ∈ gt := gt_at 762 (by decide +kernel) (by decide +kernel)
theorem kl_Mo_140 : Cond.methodLink R_Mo 140 y_Mo_lackOf ∈ gt := gt_at 766 (by decide +kernel) (by decide +kernel)
theorem kl_Mo_134 : Cond.methodLink R_Mo 134 y_Mo_costOf ∈ gt := gt_at 770 (by decide +kernel) (by decide +kernel)
theorem kl_La_139 : Cond.methodLink R_La 139 y_Mo_chosen ∈ gt := gt_at 774 (by decide +kernel) (by decide +kernel)
theorem kl_La_142 : Cond.methodLink R_La 142 y_Mo_costs ∈ gt := gt_at 778 (by decide +kernel) (by decide +kernel)
theorem kl_La_146 : Cond.methodLink R_La 146 y_Mo_lacks ∈ gt := gt_at 782 (by decide +kernel) (by decide +kernel)
theorem kl_La_150 : Cond.methodLink R_La 150 y_Mo_money ∈ gt := gt_at 786 (by decide +kernel) (by decide +kernel)
theorem kl_La_153 : Cond.methodLink R_La 153 y_Mo_reserve ∈ gt := gt_at 790 (by decide +kernel) (by decide +kernel)
theorem kl_Mo_150 : Cond.methodLink R_Mo 150 y_Mo_reserveOf ∈ gt := gt_at 794 (by decide +kernel) (by decide +kernel)
theorem kl_La_157 : Cond.methodLink R_La 157 y_Mo_shortIn ∈ gt := gt_at 798 (by decide +kernel) (by decide +kernel)
theorem kl_La_160 : Cond.methodLink R_La 160 y_Mo_payment ∈ gt := gt_at 802 (by decide +kernel) (by decide +kernel)
theorem kl_Mo_165 : Cond.methodLink R_Mo 165 y_Mo_isLoan ∈ gt := gt_at 806 (by decide +kernel) (by decide +kernel)
theorem kk_Mo_163 : Cond.constantLong R_Mo 163 (30) ∈ gt := gt_at 809 (by decide +kernel) (by decide +kernel)
theorem kl_Mo_169 : Cond.methodLink R_Mo 169 y_Mo_paymentOf ∈ gt := gt_at 810 (by decide +kernel) (by decide +kernel)
theorem kk_Mo_157 : Cond.constantLong R_Mo 157 (2000000000) ∈ gt := gt_at 813 (by decide +kernel) (by decide +kernel)
theorem kl_Mo_159 : Cond.methodLink R_Mo 159 y_Mo_restOf ∈ gt := gt_at 814 (by decide +kernel) (by decide +kernel)
theorem kk_Mo_153 : Cond.constantLong R_Mo 153 (9999) ∈ gt := gt_at 817 (by decide +kernel) (by decide +kernel)
theorem kk_Mo_155 : Cond.constantLong R_Mo 155 (10000) ∈ gt := gt_at 818 (by decide +kernel) (by decide +kernel)
theorem kl_La_163 : Cond.methodLink R_La 163 y_Mo_rest ∈ gt := gt_at 819 (by decide +kernel) (by decide +kernel)
theorem k_obj : Cond.code objectInit ⟨#[0xb1]⟩ 1 none ∈ gt := gt_at 45 (by decide +kernel) (by decide +kernel)
theorem k_obji : Cond.instanceMethod objectInit ∈ gt := gt_at 44 (by decide +kernel) (by decide +kernel)
abbrev gN : Type := String × Nat × MethodName × String
abbrev nlz : List gN := [(R_CY, 29, y_Pa_init, R_CY), (R_Wo, 48, y_CY_holds, R_CY), (R_Pa, 50, y_CY_holds, R_CY), (R_Lo, 10, y_CY_isWithin, R_CY)]
theorem nlz_in : ∀ q ∈ nlz, Cond.methodLinkNest q.1 q.2.1 q.2.2.1 q.2.2.2 ∈ lw_tbl := by
  intro q hq
  rcases List.mem_cons.mp hq with rfl | hq
  · exact List.mem_of_getElem? (i := 79) (by decide +kernel)
  rcases List.mem_cons.mp hq with rfl | hq
  · exact List.mem_of_getElem? (i := 202) (by decide +kernel)
  rcases List.mem_cons.mp hq with rfl | hq
  · exact List.mem_of_getElem? (i := 270) (by decide +kernel)
  rcases List.mem_cons.mp hq with rfl | hq
  · exact List.mem_of_getElem? (i := 556) (by decide +kernel)
  cases hq
