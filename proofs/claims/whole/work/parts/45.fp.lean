/-! doubles: where no NaN comes -/
theorem n64_i (c : Int32) : vf_n64 (FP.i2d c) := UInt64.le_of_lt (Jvm.Free.Fl.i2d_fin c)
theorem fin_i8 : Jvm.Free.Fl.Fin64 4620693217682128896 := by unfold Jvm.Free.Fl.Fin64; decide
theorem n64_i8 (c : Int32) : vf_n64 (FP.ddiv (FP.i2d c) 4620693217682128896) := Jvm.Free.Fl.ddiv_out (n64_i c) fin_i8 (by unfold Jvm.Free.Fl.Nz64; decide)
theorem n32_i8 (c : Int32) : vf_n32 (FP.d2f (FP.ddiv (FP.i2d c) 4620693217682128896)) := Jvm.Free.Fl.d2f_out (n64_i8 c)
theorem n64_i8f (c : Int32) : vf_n64 (FP.f2d (FP.d2f (FP.ddiv (FP.i2d c) 4620693217682128896))) := Jvm.Free.Fl.f2d_out (n32_i8 c)
theorem n64_b (c : Int32) : vf_n64 (FP.i2d c.toInt8.toInt32) := n64_i _
