/-- all orders, one behind the other -/
def wOrb (g : Nat) : Nat → List Nat → List (List Nat)
  | 0, l => [l]
  | m + 1, l => l :: (match mNl g l with
    | none => []
    | some l' => wOrb g m l')
/-- they end there -/
def wOrE (g : Nat) : Nat → List Nat → Bool
  | 0, l => (match mNl g l with
    | none => true
    | some _ => false)
  | m + 1, l => (match mNl g l with
    | none => true
    | some l' => wOrE g m l')
def wPmB (g : Nat) (l : List Nat) : Bool := (List.range 6).all (fun k => decide (l.getD k 0 < 6)) && ((List.range g).all (fun k => decide (l.getD k 0 < g)) && ((List.range g).all (fun i => (List.range g).any (fun k => decide (l.getD k 0 = i))) && (List.range g).all (fun a => (List.range g).all (fun b => decide (l.getD a 0 = l.getD b 0 → a = b)))))
/-- the codes from c on whose figures are unlike are these -/
def wCk (g : Nat) : Nat → Nat → List (List Nat) → Bool
  | 0, _, ls => ls.isEmpty
  | m + 1, c, ls => if (wLb g g c 0 []).1 = 2 ^ g - 1 then (match ls with
    | [] => false
    | l :: t => decide (l = (wLb g g c 0 []).2) && wCk g m (c + 1) t)
    else wCk g m (c + 1) ls
def wL0 : List Nat := [0, 1, 2, 3, 4, 5]
def wNf (g : Nat) : Nat := if g = 6 then 719 else if g = 5 then 119 else if g = 4 then 23 else if g = 3 then 5 else if g = 2 then 1 else 0
theorem wD1_1 : wOrE 1 0 wL0 = true := by decide +kernel
theorem wD2_1 : (wOrb 1 0 wL0).all (wPmB 1) = true := by decide +kernel
theorem wD3_1 : wCk 1 1 0 ((wOrb 1 0 wL0).map (List.take 1)) = true := by decide +kernel
theorem wD1_2 : wOrE 2 1 wL0 = true := by decide +kernel
theorem wD2_2 : (wOrb 2 1 wL0).all (wPmB 2) = true := by decide +kernel
theorem wD3_2 : wCk 2 4 0 ((wOrb 2 1 wL0).map (List.take 2)) = true := by decide +kernel
theorem wD1_3 : wOrE 3 5 wL0 = true := by decide +kernel
theorem wD2_3 : (wOrb 3 5 wL0).all (wPmB 3) = true := by decide +kernel
theorem wD3_3 : wCk 3 27 0 ((wOrb 3 5 wL0).map (List.take 3)) = true := by decide +kernel
theorem wD1_4 : wOrE 4 23 wL0 = true := by decide +kernel
theorem wD2_4 : (wOrb 4 23 wL0).all (wPmB 4) = true := by decide +kernel
theorem wD3_4 : wCk 4 256 0 ((wOrb 4 23 wL0).map (List.take 4)) = true := by decide +kernel
theorem wD1_5 : wOrE 5 119 wL0 = true := by decide +kernel
theorem wD2_5 : (wOrb 5 119 wL0).all (wPmB 5) = true := by decide +kernel
theorem wD3_5 : wCk 5 3125 0 ((wOrb 5 119 wL0).map (List.take 5)) = true := by decide +kernel
theorem wD1_6 : wOrE 6 719 wL0 = true := by decide +kernel
theorem wD2_6 : (wOrb 6 719 wL0).all (wPmB 6) = true := by decide +kernel
theorem wD3_6 : wCk 6 46656 0 ((wOrb 6 719 wL0).map (List.take 6)) = true := by decide +kernel
