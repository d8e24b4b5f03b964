theorem sg_stop {C E M D f t k : Nat} {tp fl : Int32} {pt : Nat → Option Nat} {pd : Nat → Pat} {cf mf ff gf sf : Nat → Int32} (h : Sim C E M pt pd cf mf ff gf sf) (hk : k ≤ min t 23 + 1 - f) (hs : M ≤ f + k ∨ t < f + k) : sgC (nI D) tp fl C E pt pd f k = sgC (nI D) tp fl C E pt pd f (min t 23 + 1 - f) := by
  refine (itr_stop hk (fun i h1 h2 a => ?_)).symm
  rcases hs with hs | hs
  · have := h.no (show M ≤ f + i by omega) (by omega)
    simp [this]
  · omega
