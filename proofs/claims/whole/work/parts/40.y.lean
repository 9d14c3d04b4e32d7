/-- a call of a method that may throw, where a handler stands -/
def q_tcT {α β : Type} (F : Option ((Int32 ⊕ Nat) × α)) (K : Int32 → α → Option β) (H : Nat → α → Option β) : Option β := match F with
  | none => none
  | some (.inl v, x) => K v x
  | some (.inr k, x) => H k x
def q_tcP {α β : Type} (F : Option (Int32 ⊕ Nat)) (x : α) (K : Int32 → α → Option β) (H : Nat → α → Option β) : Option β := match F with
  | none => none
  | some (.inl v) => K v x
  | some (.inr k) => H k x
