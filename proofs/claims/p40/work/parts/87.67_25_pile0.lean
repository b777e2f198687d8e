section
section
variable {g : RO} {Q : Ot → Hw → Prop} {w0 w : Hw} {x nA cA lA : Nat} {kn : Int32}
theorem cg_sub {i : Int32} (h : 0 < i) : (i - 1).toInt = i.toInt - 1 := by
  have h1 := i32_lt h
  have h2 := i32_bd i
  have e : (0 : Int32).toInt = 0 := rfl
  have e1 : (1 : Int32).toInt = 1 := rfl
  rw [i32_sub (by omega) (by omega), e1]
theorem cg2 {n : Int32} (h : 0 < n) (h3 : ¬ 12 < n) : vp_in (n - 1) 12 := by
  have h1 := i32_lt h
  have e : (0 : Int32).toInt = 0 := rfl
  have k := cg_sub h
  exact vpi12 (n := n) (i32_of_nlt (by rw [k, e]; omega)) (i32_of_lt (by omega)) h3
theorem cg3 {n : Int32} (h : 0 < n) : ¬ n - 1 < 0 := by
  have h1 := i32_lt h
  have e : (0 : Int32).toInt = 0 := rfl
  exact i32_of_nlt (by rw [cg_sub h, e]; omega)
theorem cg4 {n : Int32} (h : 0 < n) (h3 : ¬ 12 < n) : ¬ 12 < n - 1 := by
  have h1 := i32_nlt h3
  exact i32_of_nlt (by rw [cg_sub h]; omega)
end
end
