/-! A contract in a small world is one in a larger: what is not its own stays. -/
theorem sr_Ct_fr {l : Launch} {D : va_G} {cl : List vw_C} {tys : List (ClassId × FieldType)} {wd1 wdJ : sr_M → va_W} {cy : (Nat → Prop) → State → Heap → Prop} {ad : Nat → Nat → Nat} {WS : List Cond} {y : MethodName} {bytes : ByteArray} {maxL : Nat} {ret : Option FieldType} {rm : Room} {f : sr_F} (hct : sr_Ct l D cl tys wd1 cy ad WS y bytes maxL ret rm f)
    (hn : ∀ A A1 U H, cy A U H → (∀ q, A1 q → A q) → cy A1 U H) (mrg : sr_M → sr_M → sr_M) (hs : ∀ μ q, q ∈ wd1 μ → q ∈ wdJ μ) (hd : ∀ μ, va_D (fun _ => True) (wdJ μ) → va_D (fun _ => True) (wd1 μ))
    (hc : ∀ μ' μ, va_D (fun _ => True) (wdJ μ) → ∀ q, q ∈ wdJ (mrg μ' μ) → q ∈ wd1 μ' ∨ (q ∈ wdJ μ ∧ ∀ e, (q.1, e) ∉ wd1 μ)) :
    sr_Ct l D cl tys wdJ cy ad WS y bytes maxL ret rm (fun vs μ => match f vs μ with
      | some (C, r, μ') => some (C, r, mrg μ' μ)
      | none => none) := by
  intro sz μ vs C r μ' hf hC
  dsimp only at hf
  split at hf
  · rename_i C0 r0 μ0 h0
    cases hf
    have hM := hct sz μ vs C r μ0 h0 hC
    have hA : ∀ q, va_A (wd1 μ) sz q → va_A (wdJ μ) sz q := by
      intro q h
      rcases h with ⟨k, e, h⟩ | h
      · obtain ⟨k', h'⟩ := List.getElem?_of_mem (hs μ _ (List.mem_of_getElem? h))
        exact Or.inl ⟨k', e, h'⟩
      · exact Or.inr h
    refine MetFree.mono hM (fun a s hp => ?_) (fun _ _ _ _ _ h => h) (fun a s o t hp hq => ?_)
    · obtain ⟨e0, e1, hP, hK, hD, hcy⟩ := hp
      refine ⟨e0, e1, fun k q hk => ?_, hK, hd μ hD, hn _ _ _ _ hcy hA⟩
      obtain ⟨k', h'⟩ := List.getElem?_of_mem (hs μ _ (List.mem_of_getElem? hk))
      exact hP k' q h'
    · obtain ⟨e0, e1, hP, hK, hD, hcy⟩ := hp
      obtain ⟨⟨⟨ho, hP1⟩, hF⟩, L, hFE, hL⟩ := hq
      refine ⟨⟨⟨ho, fun k q hk => ?_⟩, hF.1, fun q h1 h2 => hF.2 q h1 (fun z => h2 (hA q z))⟩, L, hFE, fun q hq => hA _ (hL q hq)⟩
      rcases hc μ0 μ hD q (List.mem_of_getElem? hk) with h | ⟨h, hno⟩
      · obtain ⟨k', h'⟩ := List.getElem?_of_mem h
        exact hP1 k' q h'
      · obtain ⟨k', h'⟩ := List.getElem?_of_mem h
        have hat := hP k' q h'
        refine hat.kept (hF.2 q.1 hat.lt (fun z => ?_))
        rcases z with ⟨k2, e, h2⟩ | z
        · exact hno e (List.mem_of_getElem? h2)
        · have := hat.lt
          omega
  · cases hf
