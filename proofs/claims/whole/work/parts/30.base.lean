def xi (b : Bool) : Int32 := if b = true then 1 else 0
theorem xi0 (b : Bool) : (xi b = 0) = (b = false) := by cases b <;> simp [xi]
theorem xi1 (b : Bool) : (xi b = 1) = (b = true) := by cases b <;> simp [xi]
theorem xi01 (b : Bool) : xi b = 0 ∨ xi b = 1 := by cases b <;> simp [xi]
theorem xbite {α β : Type} {p : Prop} [Decidable p] {v : α} {f : α → Option β} : (if p then some v else none).bind f = if p then f v else none := by by_cases h : p <;> simp [h]
theorem xbite2 {α β : Type} {p : Prop} [Decidable p] {a b : Option α} {f : α → Option β} : (if p then a else b).bind f = if p then a.bind f else b.bind f := by by_cases h : p <;> simp [h]
theorem xin_nI {n m : Nat} (h : n < 2147483648) : xin (nI n) m = decide (n < m) := by
  have e := nI_toInt (n := n) (by omega)
  simp only [xin, e]
  by_cases h1 : n < m
  · simp [h1]
  · simp [h1]
theorem nI_cl {n : Nat} (h : n < 2147483648) : (nI n).toNatClampNeg = n := nI_clamp (by omega)
theorem xin_of {x : Int32} {n : Nat} (h : xin x n = true) (hn : n < 2147483648) : ∃ k : Nat, k < n ∧ x = nI k := vp_in_of (xin_iff.mp h) (by omega)
theorem nI_L (n : Nat) : (OfNat.ofNat n : Int32) = nI n := rfl
def xget (σ : Nat → Nat → Int32) (c : Nat) : Nat → Nat → Int32 := fun a b => σ (c + a) b
def xput (w : Nat) (σ : Nat → Nat → Int32) (c : Nat) (A : Nat → Nat → Int32) : Nat → Nat → Int32 := fun a b => if c ≤ a ∧ a < c + w then A (a - c) b else σ a b
theorem xput_get (w : Nat) (σ : Nat → Nat → Int32) (c : Nat) : xput w σ c (xget σ c) = σ := by
  funext a b
  unfold xput xget
  by_cases h : c ≤ a ∧ a < c + w
  · rw [if_pos h, show c + (a - c) = a by omega]
  · rw [if_neg h]
theorem xput_at {w : Nat} {σ : Nat → Nat → Int32} {c : Nat} {A : Nat → Nat → Int32} {k b : Nat} (h : k < w) : xput w σ c A (c + k) b = A k b := by
  unfold xput
  rw [if_pos (by omega), show c + k - c = k by omega]
theorem xput_at0 {w : Nat} {σ : Nat → Nat → Int32} {c : Nat} {A : Nat → Nat → Int32} {b : Nat} (h : 0 < w) : xput w σ c A c b = A 0 b := xput_at (k := 0) h
theorem xput_row {w : Nat} {σ : Nat → Nat → Int32} {c : Nat} {A : Nat → Nat → Int32} {k : Nat} (h : k < w) : xput w σ c A (c + k) = A k := funext fun _ => xput_at h
theorem xput_up {w : Nat} {σ : Nat → Nat → Int32} {c : Nat} {A : Nat → Nat → Int32} {k j : Nat} {v : Int32} (h : k < w) : xup (xput w σ c A) (c + k) j v = xput w σ c (xup A k j v) := by
  funext a b
  unfold xup xput
  by_cases h1 : c ≤ a ∧ a < c + w
  · rw [if_pos h1, if_pos h1]
    dsimp only
    by_cases h2 : a = c + k ∧ b = j
    · rw [if_pos h2, if_pos (by omega)]
    · rw [if_neg h2, if_neg (by omega)]
  · rw [if_neg h1, if_neg (by omega), if_neg h1]
theorem xput_up0 {w : Nat} {σ : Nat → Nat → Int32} {c : Nat} {A : Nat → Nat → Int32} {j : Nat} {v : Int32} (h : 0 < w) : xup (xput w σ c A) c j v = xput w σ c (xup A 0 j v) := xput_up (k := 0) h
theorem xget_put {w : Nat} {σ : Nat → Nat → Int32} {c : Nat} {A : Nat → Nat → Int32} {k : Nat} (h : k < w) : xget (xput w σ c A) c k = A k := funext fun _ => xput_at h
theorem xput_put {w : Nat} {σ : Nat → Nat → Int32} {c : Nat} {A B : Nat → Nat → Int32} : xput w (xput w σ c A) c B = xput w σ c B := by
  funext a b
  unfold xput
  by_cases h : c ≤ a ∧ a < c + w
  · rw [if_pos h, if_pos h]
  · rw [if_neg h, if_neg h, if_neg h]
theorem xup_same {σ : Nat → Nat → Int32} {k j : Nat} {v : Int32} : xup σ k j v k j = v := by simp [xup]
theorem xup_row {σ : Nat → Nat → Int32} {k j a b : Nat} {v : Int32} (h : ¬ a = k) : xup σ k j v a b = σ a b := by simp [xup, h]
theorem xup_ne {σ : Nat → Nat → Int32} {k j b : Nat} {v : Int32} (h : ¬ b = j) : xup σ k j v k b = σ k b := by simp [xup, h]
def xcup (sh : List (Nat × Nat × List Value)) (c : Nat) : Prop := sh[c]? = some (3, 9, [.ref (c + 1), .ref (c + 2), .ref (c + 3), .ref (c + 4), .ref (c + 5), .ref (c + 6), .ref (c + 7), .ref (c + 13), .int 0]) ∧ sh[c + 1]? = some (0, 8, []) ∧ sh[c + 2]? = some (0, 8, []) ∧ sh[c + 3]? = some (0, 8, []) ∧ sh[c + 4]? = some (0, 8, []) ∧ sh[c + 5]? = some (1, 8, []) ∧ sh[c + 6]? = some (0, 8, []) ∧ sh[c + 7]? = some (6, 7, [.ref (c + 8), .ref (c + 9), .ref (c + 10), .ref (c + 11), .ref (c + 12), .int 0, .int 0]) ∧ sh[c + 8]? = some (0, 32, []) ∧ sh[c + 9]? = some (0, 32, []) ∧ sh[c + 10]? = some (0, 32, []) ∧ sh[c + 11]? = some (0, 32, []) ∧ sh[c + 12]? = some (0, 8, []) ∧ sh[c + 13]? = some (10, 5, [.int 0, .int 0, .int 0, .int 0, .int 0])
theorem xbi_s {f : Int32 → Int32 → Int32} {pc : Nat} {ls r : List Value} {x y : Int32} {S : xS} : xbi f pc ls (.int y :: .int x :: r) S = xnx (pc + 1) ls (.int (f x y) :: r) S := rfl
theorem xbl_s {f : Int64 → Int64 → Int64} {pc : Nat} {ls r : List Value} {x y : Int64} {S : xS} : xbl f pc ls (.long y :: .long x :: r) S = xnx (pc + 1) ls (.long (f x y) :: r) S := rfl
theorem v3 : ((3 : Fin 4) : Nat) = 3 := rfl
