section
section
variable {g : RO} {Q : Ot → Hw → Prop} {w0 w : Hw} {x nA cA lA : Nat} {kn : Int32}
theorem tn_2 : (¬ (2 : Int32) = 0) = True := eq_true (by decide)
end
end
