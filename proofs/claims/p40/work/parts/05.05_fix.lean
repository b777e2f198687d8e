section
section MONO
variable {M : MT} {Q : Ot → Hw → Prop} {P P' : St → Prop} {L : List (Option Value)} {st : List Value} {w : Hw} {i : Nat}
theorem ldI_mono {f : Value → PT} (h : ∀ v, f v P → f v P') : ldI L i f P → ldI L i f P' := by
  unfold ldI
  generalize L[i]? = z
  rcases z with _ | _ | v <;> first | exact id | (cases v <;> first | exact id | exact h _)
theorem ldL_mono {f : Value → PT} (h : ∀ v, f v P → f v P') : ldL L i f P → ldL L i f P' := by
  unfold ldL
  generalize L[i]? = z
  rcases z with _ | _ | v <;> first | exact id | (cases v <;> first | exact id | exact h _)
theorem ldA_mono {f : Value → PT} (h : ∀ v, f v P → f v P') : ldA L i f P → ldA L i f P' := by
  unfold ldA
  generalize L[i]? = z
  rcases z with _ | _ | v <;> first | exact id | (cases v <;> first | exact id | exact h _)
theorem sI_mono {f : Int32 → List Value → PT} (h : ∀ v r, f v r P → f v r P') : sI st f P → sI st f P' := by
  unfold sI
  rcases st with _ | ⟨v, r⟩ <;> first | exact id | (cases v <;> first | exact id | exact h _ _)
theorem sL_mono {f : Int64 → List Value → PT} (h : ∀ v r, f v r P → f v r P') : sL st f P → sL st f P' := by
  unfold sL
  rcases st with _ | ⟨v, r⟩ <;> first | exact id | (cases v <;> first | exact id | exact h _ _)
theorem sA_mono {f : Value → List Value → PT} (h : ∀ v r, f v r P → f v r P') : sA st f P → sA st f P' := by
  unfold sA
  rcases st with _ | ⟨v, r⟩ <;> first | exact id | (cases v <;> first | exact id | exact h _ _)
theorem sR_mono {f : Nat → List Value → PT} (h : ∀ v r, f v r P → f v r P') : sR st f P → sR st f P' := by
  unfold sR
  rcases st with _ | ⟨v, r⟩ <;> first | exact id | (cases v <;> first | exact id | exact h _ _)
theorem sV_mono {f : Value → List Value → PT} (h : ∀ v r, f v r P → f v r P') : sV st f P → sV st f P' := by
  unfold sV
  rcases st with _ | ⟨v, r⟩ <;> first | exact id | exact h _ _
theorem lk_mono {α : Type} {o : Option α} {f : α → PT} (h : ∀ v, f v P → f v P') : lk o f P → lk o f P' := by
  unfold lk
  cases o <;> first | exact id | exact h _
theorem br_mono (hP : ∀ σ, P σ → P' σ) {c : Prop} {pc : Nat} {off : Int} {len : Nat} {mk : Nat → St} : br c pc off len mk P → br c pc off len mk P' := fun h => ⟨h.1, fun z => hP _ (h.2.1 z), fun z => hP _ (h.2.2 z)⟩
theorem go_mono {w : Option Ob} {c : Nat} {K K' : List Value → Prop} (h : ∀ fs, K fs → K' fs) : go w c K → go w c K' := by
  unfold go
  split
  · exact fun z => ⟨z.1, h _ z.2⟩
  · exact id
theorem gl_mono {w : Option Ob} {t : Nat} {K K' : Nat → (Nat → Int64) → Prop} (h : ∀ n f, K n f → K' n f) : gl w t K → gl w t K' := by
  unfold gl
  split
  · exact fun z => ⟨z.1, h _ _ z.2⟩
  · exact id
theorem gi_mono {w : Option Ob} {t : Nat} {K K' : Nat → (Nat → Int32) → Prop} (h : ∀ n f, K n f → K' n f) : gi w t K → gi w t K' := by
  unfold gi
  split
  · exact fun z => ⟨z.1, h _ _ z.2⟩
  · exact id
theorem gb_mono {w : Option Ob} {K K' : Nat → Nat → (Nat → Int32) → Prop} (h : ∀ t n f, K t n f → K' t n f) : gb w K → gb w K' := by
  unfold gb
  split
  · exact fun z => ⟨z.1, h _ _ _ z.2⟩
  · exact id
theorem gq_mono {w : Option Ob} {K K' : Nat → Nat → (Nat → Option Nat) → Prop} (h : ∀ t n f, K t n f → K' t n f) : gq w K → gq w K' := by
  unfold gq
  split
  · exact h _ _ _
  · exact id
theorem hgo_mono (hP : ∀ σ, P σ → P' σ) {pc : Nat} {E : String} {k n : Nat} : hgo M Q P pc L E w k n → hgo M Q P' pc L E w k n := by
  rintro ⟨h1, h2⟩
  refine ⟨h1, ?_⟩
  split at h2
  · exact fun q => hP _ (h2 q)
  · exact h2
theorem nxC_mono (hP : ∀ σ, P σ → P' σ) {ce : CE} {len pc k n : Nat} : nxC M Q ce len pc L st w k n P → nxC M Q ce len pc L st w k n P' := by
  rintro ⟨h1, h2, h3, h4, h5, h6, S, h7, h8, h9⟩
  exact ⟨h1, h2, h3, h4, h5, h6, S, h7, fun v w' h => hP _ (h8 v w' h), fun E w' h => hgo_mono hP (h9 E w' h)⟩
end MONO
set_option maxHeartbeats 2000000 in
theorem nxI_mono {M : MT} {Q : Ot → Hw → Prop} {P P' : St → Prop} (hP : ∀ σ, P σ → P' σ) {i : Instr} {len pc : Nat} {L : List (Option Value)} {st : List Value} {w : Hw} {k n : Nat} : nxI M Q i len pc L st w k n P → nxI M Q i len pc L st w k n P' := by
  unfold nxI
  split <;>
    first
    | exact id
    | exact hP _
    | exact ldI_mono fun _ => hP _
    | exact ldL_mono fun _ => hP _
    | exact ldA_mono fun _ => hP _
    | exact sI_mono fun _ _ h => ⟨h.1, hP _ h.2⟩
    | exact sL_mono fun _ _ h => ⟨h.1, hP _ h.2⟩
    | exact sI_mono fun _ _ h => ⟨h.1, h.2.1, hP _ h.2.2⟩
    | exact sA_mono fun _ _ h => ⟨h.1, hP _ h.2⟩
    | exact sV_mono fun _ _ h => ⟨h.1, hP _ h.2⟩
    | exact ldI_mono fun _ h => ⟨h.1, h.2.imp fun _ z => ⟨z.1, hP _ z.2⟩⟩
    | exact sV_mono fun _ _ => sV_mono fun _ _ h => ⟨h.1, h.2.1, hP _ h.2.2⟩
    | exact sI_mono fun _ _ => hP _
    | exact sL_mono fun _ _ => hP _
    | exact sI_mono fun _ _ => sI_mono fun _ _ => hP _
    | exact sL_mono fun _ _ => sL_mono fun _ _ => hP _
    | exact sI_mono fun _ _ => sL_mono fun _ _ => hP _
    | exact sI_mono fun _ _ => sI_mono fun _ _ h => ⟨h.1, hP _ h.2⟩
    | exact sL_mono fun _ _ => sL_mono fun _ _ h => ⟨h.1, hP _ h.2⟩
    | exact sI_mono fun _ _ => br_mono hP
    | exact sI_mono fun _ _ => sI_mono fun _ _ => br_mono hP
    | exact sA_mono fun _ _ => br_mono hP
    | exact fun h => ⟨h.1, hP _ h.2⟩
    | exact sI_mono fun _ _ h => ⟨h.1, fun z => hP _ (h.2.1 z), fun a b => (h.2.2 a b).imp fun _ z => ⟨z.1, z.2.1, hP _ z.2.2⟩⟩
    | exact sI_mono fun _ _ h => ⟨h.1, h.2.1, h.2.2.1, h.2.2.2.1, fun q z => hP _ (h.2.2.2.2 q z)⟩
    | exact sI_mono fun _ _ => sR_mono fun _ _ => gl_mono fun _ _ h => ⟨h.1, hP _ h.2⟩
    | exact sL_mono fun _ _ => sI_mono fun _ _ => sR_mono fun _ _ => gl_mono fun _ _ h => ⟨h.1, hP _ h.2⟩
    | exact sI_mono fun _ _ => sR_mono fun _ _ => gi_mono fun _ _ h => ⟨h.1, hP _ h.2⟩
    | exact sI_mono fun _ _ => sI_mono fun _ _ => sR_mono fun _ _ => gi_mono fun _ _ h => ⟨h.1, hP _ h.2⟩
    | exact sI_mono fun _ _ => sR_mono fun _ _ => gb_mono fun _ _ _ h => ⟨h.1, hP _ h.2⟩
    | exact sI_mono fun _ _ => sI_mono fun _ _ => sR_mono fun _ _ => gb_mono fun _ _ _ h => ⟨h.1, hP _ h.2⟩
    | exact sA_mono fun _ _ => sA_mono fun _ _ => br_mono hP
    | exact sI_mono fun _ _ => sR_mono fun _ _ => gq_mono fun _ _ _ h => ⟨h.1, h.2.1, hP _ h.2.2⟩
    | exact sA_mono fun _ _ => sI_mono fun _ _ => sR_mono fun _ _ => gq_mono fun _ _ _ h => ⟨h.1, h.2.imp (fun z => ⟨z.1, z.2.1, hP _ z.2.2⟩) fun ⟨b, z⟩ => ⟨b, z.1, z.2.1, hP _ z.2.2⟩⟩
    | exact sR_mono fun _ _ ⟨t, x, z⟩ => ⟨t, x, z.1, z.2.1, hP _ z.2.2⟩
    | exact lk_mono fun _ => hP _
    | exact lk_mono fun _ h => ⟨h.1, hP _ h.2⟩
    | exact lk_mono fun _ h => ⟨h.1, nxC_mono hP h.2⟩
    | exact lk_mono fun _ => sI_mono fun _ _ h => ⟨h.1, h.2.1, h.2.2.1, h.2.2.2.1, fun q z => hP _ (h.2.2.2.2 q z)⟩
    | exact lk_mono fun _ => sR_mono fun _ _ => go_mono fun _ h => h.imp fun _ z => ⟨z.1, hP _ z.2⟩
    | exact lk_mono fun _ => sV_mono fun _ _ => sR_mono fun _ _ => go_mono fun _ h => ⟨h.1, h.2.1, hP _ h.2.2⟩
    | exact lk_mono fun _ h => ⟨h.1, h.2.1, fun q z => hP _ (h.2.2 q z)⟩
    | (by_cases hob : ‹Nat› = M.acp
       · rw [if_pos hob]
         exact sI_mono fun _ _ => sI_mono fun _ _ => sR_mono fun _ _ => sI_mono fun _ _ => sR_mono fun _ _ h => ⟨h.1, h.2.1, h.2.2.1, h.2.2.2.1, h.2.2.2.2.1, h.2.2.2.2.2.imp (fun ⟨a, b, c, d, z⟩ => ⟨a, b, c, d, z.1, z.2.1, z.2.2.1, z.2.2.2.1, z.2.2.2.2.1, hP _ z.2.2.2.2.2⟩) (fun ⟨a, b, c, d, z⟩ => ⟨a, b, c, d, z.1, z.2.1, z.2.2.1, z.2.2.2.1, z.2.2.2.2.1, hP _ z.2.2.2.2.2⟩)⟩
       · rw [if_neg hob]
         split
         · exact sI_mono fun _ _ => sI_mono fun _ _ h => ⟨h.1, h.2.1, h.2.2.1, h.2.2.2.1, hP _ h.2.2.2.2⟩
         · split
           · exact sI_mono fun _ _ => sI_mono fun _ _ h => ⟨h.1, h.2.1, h.2.2.1, h.2.2.2.1, hP _ h.2.2.2.2⟩
           · split
             · exact sI_mono fun _ _ h => ⟨h.1, h.2.1, h.2.2.1, h.2.2.2.1, hP _ h.2.2.2.2⟩
             · exact lk_mono fun _ h => ⟨h.1, nxC_mono hP h.2⟩)
    | (by_cases hob : M.stt.lookup ‹Nat› = some 11
       · rw [if_pos hob]
         exact sR_mono fun _ _ h => ⟨h.1, h.2.1, h.2.2.1, hP _ h.2.2.2⟩
       · rw [if_neg hob]
         split
         · exact sR_mono fun _ _ h => ⟨h.1, h.2.1, h.2.2.1, h.2.2.2.imp fun _ z => z.imp fun _ z => ⟨z.1, z.2.1, z.2.2.1, fun q hq => hP _ (z.2.2.2 q hq)⟩⟩
         · exact lk_mono fun _ h => ⟨h.1, nxC_mono hP h.2⟩)
    | (by_cases hob : ‹Nat› = M.obj
       · rw [if_pos hob]
         exact sR_mono fun _ _ h => ⟨h.1, h.2.1, hP _ h.2.2⟩
       · rw [if_neg hob]
         exact lk_mono fun _ h => ⟨h.1, nxC_mono hP h.2⟩)
theorem nx_mono {M : MT} {Q : Ot → Hw → Prop} {P P' : St → Prop} (hP : ∀ σ, P σ → P' σ) {σ : St} : nx M Q σ P → nx M Q σ P' := by
  unfold nx
  split
  · exact id
  · split
    · exact fun h => ⟨h.1, nxI_mono hP h.2⟩
    · exact id
theorem WP_in {M : MT} {Q : Ot → Hw → Prop} {σ : St} (h : nx M Q σ (WP M Q)) : WP M Q σ := fun P hP => hP σ (nx_mono (fun τ ht => ht P hP) h)
theorem WP_out {M : MT} {Q : Ot → Hw → Prop} {σ : St} (h : WP M Q σ) : nx M Q σ (WP M Q) := h (fun τ => nx M Q τ (WP M Q)) (fun τ hτ => nx_mono (fun _ => WP_in) hτ)
theorem WP_eq {M : MT} {Q : Ot → Hw → Prop} {σ : St} : WP M Q σ = nx M Q σ (WP M Q) := propext ⟨WP_out, WP_in⟩
end
