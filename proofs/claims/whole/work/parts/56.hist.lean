/-! PART 56: the constructor of the history -/
def SH (S : Nat → Nat → Prop) (j : Nat) : Nat → Nat → Prop := fun K i => S K i ∨ (K = 10 ∧ i = 0) ∨ (K ≤ 6 ∧ 4 ≤ i ∧ i < 4 + j) ∨ (K = 7 ∧ 32 ≤ i ∧ i < 32 + 8 * j)
def EH (G : Gm) (E : Nat → Nat → va_E) (j : Nat) : Nat → Nat → va_E := fun K i => if K = 9 ∧ i = 0 then E0 G 9 0 else if K = 10 ∧ i = 0 then .inl (G.2.1 3, 7, .inr (.inr (.inr (.inr (fun r => if r < j then some (G.2.2 0 (4 + r)) else none))))) else if (K ≤ 6 ∧ 4 ≤ i ∧ i < 4 + j) ∨ (K = 7 ∧ 32 ≤ i ∧ i < 32 + 8 * j) then E0 G K i else E K i
