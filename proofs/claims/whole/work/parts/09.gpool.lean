/-! Rows of arrays of arrays: a pool of n cells at the addresses row 0 .. row (n - 1), with what g says of each. -/
def gpool (n : Nat) (row : Nat → Nat) (g : Nat → va_E) : va_W := (List.range n).map (fun i => (row i, g i))
theorem gpool_len (n : Nat) (row : Nat → Nat) (g : Nat → va_E) : (gpool n row g).length = n := by simp [gpool]
theorem gpool_get {n i : Nat} {row : Nat → Nat} {g : Nat → va_E} (h : i < n) : (gpool n row g)[i]? = some (row i, g i) := by simp [gpool, h]
theorem gpool_set {n i : Nat} {row : Nat → Nat} {g : Nat → va_E} {x : va_E} (h : i < n) : (gpool n row g).set i (row i, x) = gpool n row (va_up g i x) := by
  apply List.ext_getElem?
  intro j
  rw [List.getElem?_set]
  by_cases hj : j < n
  · by_cases e : i = j
    · subst e
      rw [if_pos rfl, if_pos (by rw [gpool_len]; exact hj), gpool_get hj, va_up_self]
    · rw [if_neg e, gpool_get hj, gpool_get hj, va_up_ne _ _ (Ne.symm e)]
  · have e : i ≠ j := by omega
    rw [if_neg e, List.getElem?_eq_none (by rw [gpool_len]; omega), List.getElem?_eq_none (by rw [gpool_len]; omega)]
theorem gpl_get {F Y : va_W} {n i k : Nat} {row : Nat → Nat} {g : Nat → va_E} (hF : F.length = k) (h : i < n) : (F ++ (gpool n row g ++ Y))[k + i]? = some (row i, g i) := by
  rw [List.getElem?_append_right (by omega), List.getElem?_append_left (by rw [gpool_len]; omega), show k + i - F.length = i by omega, gpool_get h]
theorem gpl_set {F Y : va_W} {n i k : Nat} {row : Nat → Nat} {g : Nat → va_E} {x : va_E} (hF : F.length = k) (h : i < n) : (F ++ (gpool n row g ++ Y)).set (k + i) (row i, x) = F ++ (gpool n row (va_up g i x) ++ Y) := by
  rw [List.set_append_right _ _ (by omega), List.set_append_left _ _ (by rw [gpool_len]; omega), show k + i - F.length = i by omega, gpool_set h]
theorem gpl2_get {F P Y : va_W} {n i k : Nat} {row : Nat → Nat} {g : Nat → va_E} (hF : F.length + P.length = k) (h : i < n) : (F ++ (P ++ (gpool n row g ++ Y)))[k + i]? = some (row i, g i) := by
  rw [← List.append_assoc]; exact gpl_get (by simpa using hF) h
theorem gpl2_set {F P Y : va_W} {n i k : Nat} {row : Nat → Nat} {g : Nat → va_E} {x : va_E} (hF : F.length + P.length = k) (h : i < n) : (F ++ (P ++ (gpool n row g ++ Y))).set (k + i) (row i, x) = F ++ (P ++ (gpool n row (va_up g i x) ++ Y)) := by
  have q := gpl_set (F := F ++ P) (Y := Y) (g := g) (row := row) (x := x) (k := k) (by simpa using hF) h
  rw [List.append_assoc, List.append_assoc] at q
  exact q
theorem gpl3_get {F P P2 Y : va_W} {n i k : Nat} {row : Nat → Nat} {g : Nat → va_E} (hF : F.length + (P.length + P2.length) = k) (h : i < n) : (F ++ (P ++ (P2 ++ (gpool n row g ++ Y))))[k + i]? = some (row i, g i) := by
  rw [← List.append_assoc]; exact gpl2_get (by simp; omega) h
theorem gpl3_set {F P P2 Y : va_W} {n i k : Nat} {row : Nat → Nat} {g : Nat → va_E} {x : va_E} (hF : F.length + (P.length + P2.length) = k) (h : i < n) : (F ++ (P ++ (P2 ++ (gpool n row g ++ Y)))).set (k + i) (row i, x) = F ++ (P ++ (P2 ++ (gpool n row (va_up g i x) ++ Y))) := by
  have q := gpl2_set (F := F ++ P) (P := P2) (Y := Y) (g := g) (row := row) (x := x) (k := k) (by simp; omega) h
  rw [List.append_assoc, List.append_assoc] at q
  exact q
