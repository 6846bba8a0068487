theorem zm1 : Int32.ofInt (-1) = (-1 : Int32) := by decide +kernel
theorem zofm1 {x y : Int32} (h : x + (-1) = y) : x + Int32.ofInt (-1) = y := by rw [zm1]; exact h
theorem zdec {x y : Int32} (h : x + (-1) = y) (h0 : -2147483647 ≤ x.toInt) : y.toInt = x.toInt - 1 := by
  have k : Int32.toInt (-1) = -1 := by decide
  have h1 := Int32.toInt_lt x
  rw [← h, Int32.toInt_add, k]
  exact zbm (by omega) (by omega)
