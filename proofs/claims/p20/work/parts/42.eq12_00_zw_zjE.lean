theorem zw_zjE {σ ρ : Type} {j j' : σ → Option ρ} {k : (σ → Option ρ) → Option ρ} {P : ρ → Prop} (e : j = j') (h : zw (k j') P) : zw (zj j k) P := by
  subst e
  exact h
