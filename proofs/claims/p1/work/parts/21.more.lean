theorem lx_iushr0 (z : UInt32) : ((0 : Int32).toUInt32 >>> z).toInt32 = 0 := by
  apply Int32.toBitVec_inj.mp
  simp
