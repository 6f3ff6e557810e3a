/-! Care and the reserve, as functions on numbers. -/
theorem eY_ind {r : Nat} {M : Nat → Nat} {n rn : Nat} {sh sn sh' sn' : Nat → Nat} {yw yw' : Nat} : ∀ k, (eY r M n rn sh sn yw (k + 1)).1 = (eY r M n rn sh' sn' yw' (k + 1)).1 ∧ (eY r M n rn sh sn yw (k + 1)).2.1 = (eY r M n rn sh' sn' yw' (k + 1)).2.1 := by
  intro k
  induction k with
  | zero => simp [eY, enB]
  | succ k ih =>
    show (if enB rn (k + 1) then beg r else wrV (eY r M n rn sh sn yw (k + 1)).1 M n (eY r M n rn sh sn yw (k + 1)).1) = (if enB rn (k + 1) then beg r else wrV (eY r M n rn sh' sn' yw' (k + 1)).1 M n (eY r M n rn sh' sn' yw' (k + 1)).1) ∧ (if enB rn (k + 1) then 0 else (eY r M n rn sh sn yw (k + 1)).2.1 + 1) = (if enB rn (k + 1) then 0 else (eY r M n rn sh' sn' yw' (k + 1)).2.1 + 1)
    rw [ih.1, ih.2]
    exact ⟨rfl, rfl⟩
/-- a part's shares in year y, and the years worn -/
def shC (r : Nat) (M : Nat → Nat) (n rn y : Nat) : Nat → Nat := (eY r M n rn (fun _ => 0) (fun _ => 0) 0 (y + 1)).1
def ywC (r : Nat) (M : Nat → Nat) (n rn y : Nat) : Nat := (eY r M n rn (fun _ => 0) (fun _ => 0) 0 (y + 1)).2.1
theorem eY_sh {r : Nat} {M : Nat → Nat} {n rn : Nat} {sh sn : Nat → Nat} {yw : Nat} (y : Nat) : (eY r M n rn sh sn yw (y + 1)).1 = shC r M n rn y := (eY_ind y).1
theorem eY_yw {r : Nat} {M : Nat → Nat} {n rn : Nat} {sh sn : Nat → Nat} {yw : Nat} (y : Nat) : (eY r M n rn sh sn yw (y + 1)).2.1 = ywC r M n rn y := (eY_ind y).2
theorem shC_sum {r : Nat} {M : Nat → Nat} {n rn y : Nat} (hr : r < n) (hM : ∀ a, a < n → sumN (fun j => M (a * 4 + j)) n = 16) (hy : y < 12) : sumN (shC r M n rn y) n = 16 ^ ywC r M n rn y ∧ ywC r M n rn y ≤ 11 := by
  have h := eY_sum (rn := rn) (sh := fun _ => 0) (sn := fun _ => 0) (yw := 0) hr hM y
  exact ⟨h.1, by have := h.2; unfold ywC; omega⟩
/-- what a part's care takes in year y (before the index) -/
def tkC (r : Nat) (M : Nat → Nat) (n rn : Nat) (tk : Nat → Nat) (y : Nat) : Nat := sumN (fun a => shC r M n rn y a * tk a) n / 2 ^ (ywC r M n rn y * 4)
theorem tk_bd {r : Nat} {M : Nat → Nat} {n rn y : Nat} {tk : Nat → Nat} (hr : r < n) (hM : ∀ a, a < n → sumN (fun j => M (a * 4 + j)) n = 16) (hy : y < 12) (ht : ∀ a, tk a ≤ 1000) : sumN (fun a => shC r M n rn y a * tk a) n ≤ 16 ^ ywC r M n rn y * 1000 := by
  rw [← (shC_sum (rn := rn) hr hM hy).1, ← sumN_mulR]
  have : ∀ k, sumN (fun a => shC r M n rn y a * tk a) k ≤ sumN (fun a => shC r M n rn y a * 1000) k := by
    intro k
    induction k with
    | zero => exact Nat.le_refl _
    | succ k ih => simp only [sumN]; have := Nat.mul_le_mul_left (shC r M n rn y k) (ht k); omega
  exact this n
theorem tk_lt {r : Nat} {M : Nat → Nat} {n rn y : Nat} {tk : Nat → Nat} (hr : r < n) (hM : ∀ a, a < n → sumN (fun j => M (a * 4 + j)) n = 16) (hy : y < 12) (ht : ∀ a, tk a ≤ 1000) : sumN (fun a => shC r M n rn y a * tk a) n < 2 ^ 62 := by
  have h1 := tk_bd (rn := rn) hr hM hy ht
  have h2 := pow16 (shC_sum (rn := rn) hr hM hy).2
  omega
theorem pow24 (k : Nat) : 2 ^ (k * 4) = 16 ^ k := by rw [Nat.mul_comm, Nat.pow_mul]
theorem tkC_le {r : Nat} {M : Nat → Nat} {n rn y : Nat} {tk : Nat → Nat} (hr : r < n) (hM : ∀ a, a < n → sumN (fun j => M (a * 4 + j)) n = 16) (hy : y < 12) (ht : ∀ a, tk a ≤ 1000) : tkC r M n rn tk y ≤ 1000 := by
  unfold tkC
  rw [pow24]
  exact Nat.div_le_of_le_mul (tk_bd hr hM hy ht)
/-- what part i's care costs in year y -/
def cY (ix st sr : Nat → Nat) (sx tk : Nat → Nat → Nat) (rn : Nat → Nat) (i y : Nat) : Nat := tkC (sr i) (sx i) (st i) (rn i) (tk i) y * ix y / 1000
/-- what is left over behind the parts below p, with the shares as they are left -/
def tE (nY : Nat) (st sr : Nat → Nat) (sx : Nat → Nat → Nat) (rn sh sn : Nat → Nat) (yw : Nat) : Nat → (Nat → Nat) × Nat × (Nat → Nat)
  | 0 => (sh, yw, sn)
  | p + 1 => eY (sr p) (sx p) (st p) (rn p) (tE nY st sr sx rn sh sn yw p).1 (tE nY st sr sx rn sh sn yw p).2.2 (tE nY st sr sx rn sh sn yw p).2.1 nY
/-- the year's part of the reserve -/
def dY (ix st sr : Nat → Nat) (sx tk : Nat → Nat → Nat) (rn : Nat → Nat) (c : Nat → Int) (dp p y : Nat) : Int := (dp : Int) - c y - sumZ (fun i => (cY ix st sr sx tk rn i y : Int)) p
/-- the reserve of year y -/
def rV (ix st sr : Nat → Nat) (sx tk : Nat → Nat → Nat) (rn : Nat → Nat) (c : Nat → Int) (bg dp np y : Nat) : Int := (bg : Int) + sumZ (dY ix st sr sx tk rn c dp np) (y + 1)
