theorem Sf.elimS {α α' β : Type} {f : α → Option β} {g : α' → Option β} {P : α → Prop} {P' : α' → Prop} {Q : β → Prop} (hf : ∀ a, P a → Sf (f a) Q) (hg : ∀ a, P' a → Sf (g a) Q) : ∀ x, Sum.elim P P' x → Sf (Sum.elim f g x) Q := by
  intro x h
  cases x with
  | inl a => exact hf a h
  | inr a => exact hg a h
