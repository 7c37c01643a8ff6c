/-- all orders, one behind the other -/
def wOrb (g : Nat) : Nat → List Nat → List (List Nat)
  | 0, l => [l]
  | m + 1, l => l :: (match mNl g l with
    | none => []
    | some l' => wOrb g m l')
/-- they end there -/
def wOrE (g : Nat) : Nat → List Nat → Bool
  | 0, l => (match mNl g l with
    | none => true
    | some _ => false)
  | m + 1, l => (match mNl g l with
    | none => true
    | some l' => wOrE g m l')
def wPmB (g : Nat) (l : List Nat) : Bool := (List.range 6).all (fun k => decide (l.getD k 0 < 6)) && ((List.range g).all (fun k => decide (l.getD k 0 < g)) && ((List.range g).all (fun i => (List.range g).any (fun k => decide (l.getD k 0 = i))) && (List.range g).all (fun a => (List.range g).all (fun b => decide (l.getD a 0 = l.getD b 0 → a = b)))))
/-- the codes from c on whose figures are unlike are these -/
def wCk (g : Nat) : Nat → Nat → List (List Nat) → Bool
  | 0, _, ls => ls.isEmpty
  | m + 1, c, ls => if (wLb g g c 0 []).1 = 2 ^ g - 1 then (match ls with
    | [] => false
    | l :: t => decide (l = (wLb g g c 0 []).2) && wCk g m (c + 1) t)
    else wCk g m (c + 1) ls
def wL0 : List Nat := [0, 1, 2, 3, 4, 5]
def wNf (g : Nat) : Nat := if g = 6 then 719 else if g = 5 then 119 else if g = 4 then 23 else if g = 3 then 5 else if g = 2 then 1 else 0
theorem wD1_1 : wOrE 1 0 wL0 = true := by decide +kernel
theorem wD2_1 : (wOrb 1 0 wL0).all (wPmB 1) = true := by decide +kernel
theorem wD3_1 : wCk 1 1 0 ((wOrb 1 0 wL0).map (List.take 1)) = true := by decide +kernel
theorem wD1_2 : wOrE 2 1 wL0 = true := by decide +kernel
theorem wD2_2 : (wOrb 2 1 wL0).all (wPmB 2) = true := by decide +kernel
theorem wD3_2 : wCk 2 4 0 ((wOrb 2 1 wL0).map (List.take 2)) = true := by decide +kernel
theorem wD1_3 : wOrE 3 5 wL0 = true := by decide +kernel
theorem wD2_3 : (wOrb 3 5 wL0).all (wPmB 3) = true := by decide +kernel
theorem wD3_3 : wCk 3 27 0 ((wOrb 3 5 wL0).map (List.take 3)) = true := by decide +kernel
theorem wD1_4 : wOrE 4 23 wL0 = true := by decide +kernel
theorem wD2_4 : (wOrb 4 23 wL0).all (wPmB 4) = true := by decide +kernel
theorem wD3_4 : wCk 4 256 0 ((wOrb 4 23 wL0).map (List.take 4)) = true := by decide +kernel
theorem wD1_5 : wOrE 5 119 wL0 = true := by decide +kernel
theorem wD2_5 : (wOrb 5 119 wL0).all (wPmB 5) = true := by decide +kernel
theorem wD3_5 : wCk 5 3125 0 ((wOrb 5 119 wL0).map (List.take 5)) = true := by decide +kernel
theorem wD1_6 : wOrE 6 719 wL0 = true := by decide +kernel
theorem wD2_6 : (wOrb 6 719 wL0).all (wPmB 6) = true := by decide +kernel
/-- the same, some codes at a time: the orders that are left -/
def wCr (g : Nat) : Nat → Nat → List (List Nat) → Option (List (List Nat))
  | 0, _, ls => some ls
  | m + 1, c, ls => if (wLb g g c 0 []).1 = 2 ^ g - 1 then (match ls with
    | [] => none
    | l :: t => if l = (wLb g g c 0 []).2 then wCr g m (c + 1) t else none)
    else wCr g m (c + 1) ls
theorem wCr_k {g : Nat} : ∀ (m1 m2 c : Nat) (ls ls' : List (List Nat)), wCr g m1 c ls = some ls' → wCk g m2 (c + m1) ls' = true → wCk g (m1 + m2) c ls = true
  | 0, m2, c, ls, ls', h1, h2 => by
    have h1 : some ls = some ls' := h1
    cases h1
    rw [Nat.zero_add]
    exact h2
  | m1 + 1, m2, c, ls, ls', h1, h2 => by
    rw [show m1 + 1 + m2 = (m1 + m2) + 1 by omega]
    have h2 : wCk g m2 (c + 1 + m1) ls' = true := by rw [show c + 1 + m1 = c + (m1 + 1) by omega]; exact h2
    unfold wCr at h1
    unfold wCk
    by_cases hq : (wLb g g c 0 []).1 = 2 ^ g - 1
    · rw [if_pos hq] at h1 ⊢
      cases ls with
      | nil => cases h1
      | cons l t =>
        have h1 : (if l = (wLb g g c 0 []).2 then wCr g m1 (c + 1) t else none) = some ls' := h1
        show (decide (l = (wLb g g c 0 []).2) && wCk g (m1 + m2) (c + 1) t) = true
        by_cases hl : l = (wLb g g c 0 []).2
        · rw [if_pos hl] at h1
          rw [decide_eq_true hl, wCr_k m1 m2 (c + 1) t ls' h1 h2]
          rfl
        · rw [if_neg hl] at h1
          cases h1
    · rw [if_neg hq] at h1 ⊢
      exact wCr_k m1 m2 (c + 1) ls ls' h1 h2
def wO6 (k : Nat) : List (List Nat) := ((wOrb 6 719 wL0).map (List.take 6)).drop (120 * k)
theorem wD4_0 : wCr 6 7776 0 (wO6 0) = some (wO6 1) := by decide +kernel
theorem wD4_1 : wCr 6 7776 7776 (wO6 1) = some (wO6 2) := by decide +kernel
theorem wD4_2 : wCr 6 7776 15552 (wO6 2) = some (wO6 3) := by decide +kernel
theorem wD4_3 : wCr 6 7776 23328 (wO6 3) = some (wO6 4) := by decide +kernel
theorem wD4_4 : wCr 6 7776 31104 (wO6 4) = some (wO6 5) := by decide +kernel
theorem wD4_5 : wCr 6 7776 38880 (wO6 5) = some (wO6 6) := by decide +kernel
theorem wD3_6 : wCk 6 46656 0 ((wOrb 6 719 wL0).map (List.take 6)) = true :=
  wCr_k 7776 38880 0 _ _ wD4_0 (wCr_k 7776 31104 7776 _ _ wD4_1 (wCr_k 7776 23328 15552 _ _ wD4_2 (wCr_k 7776 15552 23328 _ _ wD4_3 (wCr_k 7776 7776 31104 _ _ wD4_4 (wCr_k 7776 0 38880 _ _ wD4_5 (by decide +kernel : wCk 6 0 46656 (wO6 6) = true))))))
