/-- the reference's rights: a TIED one's house is there -/
def okWho (nr : Nat) (fk fw : Nat → Int32) : Prop := ∀ k : Nat, k < nr → fk k = 1 → ∃ j : Nat, j < 10 ∧ fw k = nI j
