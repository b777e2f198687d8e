section
section
variable {g : RO} {Q : Ot → Hw → Prop} {w0 w : Hw} {x nA cA lA : Nat} {kn : Int32}
theorem i8 : (8 : Int32).toNatClampNeg = 8 := rfl
theorem i6 : (6 : Int32).toNatClampNeg = 6 := rfl
theorem i12 : (12 : Int32).toNatClampNeg = 12 := rfl
theorem n8 : ((8 : Int32) < 0) = False := eq_false (by decide)
theorem n6 : ((6 : Int32) < 0) = False := eq_false (by decide)
theorem n12' : ((12 : Int32) < 0) = False := eq_false (by decide)
end
end
