section
section
variable {g : RO} {Q : Ot → Hw → Prop} {w0 w : Hw}
variable {y nM : Nat} {kd : Int32}
theorem LL.ext {L D cap : Nat} {n : Int32} {h : Nat → Option Nat} {w' : Hw} (hl : LL g w L D cap n h) (k : ext g w w') : LL g w' L D cap n h := hl.kp (fun fs e => k.1 _ _ e) (fun z e => k.1 _ _ e) (fun o e1 e2 => k.2 _ o e1 e2)
theorem LL.rD {L D cap : Nat} {n : Int32} {h : Nat → Option Nat} (hl : LL g w L D cap n h) : rd g w D = some (.inl (5, cap, qc h)) := by
  obtain ⟨mc, q1, q2, q3, -⟩ := hl.opn
  exact q3
theorem LL.c15 {L D cap : Nat} {n : Int32} {h : Nat → Option Nat} (hl : LL g w L D cap n h) : cap ≤ 15 := by
  rcases hl.2.1 with ⟨-, k⟩ | ⟨k, -⟩ <;> omega
theorem sInitF {w1 : Hw} {q : Nat} (hE : EG g w1) (hq : rd g w1 q = none) (hQ : ∀ D w', ext g w1 w' → LL g w' q D 0 0 (fun _ => none) → w1 D = none → Q (.inl none) w') : WP (MJx4a65c_init_da8c8 g) Q (0, [some (.ref q)], [], upw w1 q (.inr (3, [.int 0, .null, .int 0])), 0, 0) := by
  have hqn := rd_none hq
  have hE' : EG g (upw w1 q (.inr (3, [.int 0, .null, .int 0]))) := hE.ext (ext_up2 ext.rf hq)
  refine sJx4a65c_init hE' (upw_s _ _ _) (fun D w' f1 f2 hl => ?_)
  have k : ext g w1 w' := by
    refine ⟨fun a o e => ?_, fun a o e1 e2 => ?_⟩
    · have hne : a ≠ q := fun z => by
        rw [z, hqn] at e
        cases e
      exact f1 a o (by rw [upw_n hne]; exact e) hne
    · have hne : a ≠ q := fun z => by
        rw [z, rd_ro hq] at e1
        cases e1
      exact f2 a o e1 (by rw [upw_n hne]; exact e2)
  refine hQ D w' k hl ?_
  rcases hl.2.1 with ⟨-, z⟩ | ⟨-, -, z, -⟩
  · omega
  · cases hw : w1 D with
    | none => rfl
    | some o =>
      rw [k.1 _ _ hw] at z
      cases z
theorem n00' : (0 : Int32).toInt ≤ 12 := by decide
theorem nr0 : ∀ (i b : Nat), (fun _ => none : Nat → Option Nat) i = some b → isRow w b := fun _ _ e => by cases e
end
end
