theorem ab_Mt.conseq {G : ab_G} {rs : List String} {M : ab_M} {d mc ms : Nat} {av : List ab_V} {w : ab_W} {Q Q' : Option ab_V → ab_W → Prop} (h : ∀ r w2, Q r w2 → Q' r w2) (k : ab_Mt G rs M d mc ms av w Q) : ab_Mt G rs M d mc ms av w Q' := by
  intro l D dA aK aV as sz hs
  refine MetFree.mono (k l D dA aK aV as sz hs) (fun _ _ q => q) (fun _ _ _ _ _ q => q) (fun a st o t _ q => ?_)
  obtain ⟨⟨⟨r, w', as', q1, q2⟩, q3⟩, q4⟩ := q
  exact ⟨⟨⟨r, w', as', h r w' q1, q2⟩, q3⟩, q4⟩
section EVH
variable {G : ab_G} {rs : List String} {M : ab_M} {d bc bs pc : Nat} {l : ab_L} {st : List ab_V} {w : ab_W} {Q : Option ab_V → ab_W → Prop}
theorem ev_if_ne_t {a : Int} {off : Int} {tgt : Nat} (hd : decode M.2.1 pc = .ok (.ifCond .ne off, 3)) (ht : (pc : Int) + off = (tgt : Int)) (ha : ab_in a) (h : ¬ a = 0) (k : ab_Ev G rs M d bc bs tgt l st w Q) : ab_Ev G rs M d bc bs pc l (.inl a :: st) w Q := ev_if_ne hd ht ha (fun _ => k) (fun z => absurd z h)
theorem ev_if_ne_f {a : Int} {off : Int} {tgt : Nat} (hd : decode M.2.1 pc = .ok (.ifCond .ne off, 3)) (ht : (pc : Int) + off = (tgt : Int)) (ha : ab_in a) (h : a = 0) (k : ab_Ev G rs M d bc bs (pc + 3) l st w Q) : ab_Ev G rs M d bc bs pc l (.inl a :: st) w Q := ev_if_ne hd ht ha (fun z => absurd h z) (fun _ => k)
theorem ev_if_eq_t {a : Int} {off : Int} {tgt : Nat} (hd : decode M.2.1 pc = .ok (.ifCond .eq off, 3)) (ht : (pc : Int) + off = (tgt : Int)) (ha : ab_in a) (h : a = 0) (k : ab_Ev G rs M d bc bs tgt l st w Q) : ab_Ev G rs M d bc bs pc l (.inl a :: st) w Q := ev_if_eq hd ht ha (fun _ => k) (fun z => absurd h z)
theorem ev_if_eq_f {a : Int} {off : Int} {tgt : Nat} (hd : decode M.2.1 pc = .ok (.ifCond .eq off, 3)) (ht : (pc : Int) + off = (tgt : Int)) (ha : ab_in a) (h : ¬ a = 0) (k : ab_Ev G rs M d bc bs (pc + 3) l st w Q) : ab_Ev G rs M d bc bs pc l (.inl a :: st) w Q := ev_if_eq hd ht ha (fun z => absurd z h) (fun _ => k)
end EVH
