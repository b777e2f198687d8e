section
section
variable {g : RO} {Q : Ot → Hw → Prop} {w0 w : Hw}
variable {y nM : Nat} {kd : Int32}
theorem ext.k1 {w' : Hw} {a : Nat} {o : Ob} (k : ext g w w') (h : w a = some o) : w' a = some o := k.1 a o h
theorem sNext1 {q L D cap b : Nat} {c lr n mc : Int32} {h : Nat → Option Nat} (hq : w q = some (.inr (2, [.int c, .int lr, .int mc, .ref L]))) (hL : w L = some (.inr (3, [.int mc, .ref D, .int n]))) (rD : rd g w D = some (.inl (5, cap, qc h))) (k0 : 0 ≤ c.toInt) (k1 : c.toInt < n.toInt) (hn : n.toInt ≤ (cap : Int)) (hc : cap ≤ 15) (hb : h c.toNatClampNeg = some b) (hR : Q (.inl (some (.ref b))) (upw w q (.inr (2, [.int (c + 1), .int c, .int mc, .ref L])))) : WP (MJx35411_next_0502b g) Q (0, [some (.ref q), none, none], [], w, 0, 0) := sJx35411_next_0502b hq hL rD k0 k1 hn hc (fun e => by
  rw [hb] at e
  cases e) (fun b9 e => by
  rw [hb] at e
  cases e
  exact hR)
theorem sIter1 {L D cap : Nat} {mc n : Int32} {h : Nat → Option Nat} (hl : LL g w L D cap n h) (hL : w L = some (.inr (3, [.int mc, .ref D, .int n]))) (hQ : ∀ q, rd g w q = none → Q (.inl (some (.ref q))) (upw w q (.inr (2, [.int 0, .int (-1), .int mc, .ref L])))) : WP (MJx4a65c_iterator_32c93 g) Q (0, [some (.ref L)], [], w, 0, 0) := sJx4a65c_iterator_32c93 hl (fun q mc9 e hq => by
  rw [hL] at e
  cases e
  exact hQ q hq)
end
end
