/-! a name of the rest of the library, ahead of all: the round is read over the whole of it from here on -/
theorem wide_0 (x : Int32) : True := by
  have h1 := Jvm.FP.Core.i2d_mag x
  exact True.intro
