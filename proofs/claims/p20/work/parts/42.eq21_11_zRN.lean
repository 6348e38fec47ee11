noncomputable def zRN (cN inp : Int32) (more : Int64) (op made amt rwd : Nat → Int32) (rlo rhi : Nat → Int64) : Prop := ∀ i : Int32, 0 ≤ i → i < cN → zRN1 i inp more op made amt rwd rlo rhi
