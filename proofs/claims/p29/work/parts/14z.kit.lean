theorem x_lk2 {x : Int32} (h0 : ¬ x = 0) (h1 : ¬ x = 1) : Op.lookupswitch.offset (#[(0, 27), (1, 49)] : Array (Int × Int)).toList 74 x.toInt = 74 := by
  have e0 : ¬ x.toInt = 0 := fun e => h0 ((fa_eq _ _).mpr e)
  have e1 : ¬ x.toInt = 1 := fun e => h1 ((fa_eq _ _).mpr e)
  have d0 : ¬ (0 : Int) = x.toInt := fun e => e0 e.symm
  have d1 : ¬ (1 : Int) = x.toInt := fun e => e1 e.symm
  simp [Op.lookupswitch.offset, e0, e1, d0, d1]
theorem x_lk3 {x : Int32} (h0 : ¬ x = 104) (h1 : ¬ x = 111) (h2 : ¬ x = 113) : Op.lookupswitch.offset (#[(104, 128), (111, 36), (113, 77)] : Array (Int × Int)).toList 178 x.toInt = 178 := by
  have e0 : ¬ x.toInt = 104 := fun e => h0 ((fa_eq _ _).mpr e)
  have e1 : ¬ x.toInt = 111 := fun e => h1 ((fa_eq _ _).mpr e)
  have e2 : ¬ x.toInt = 113 := fun e => h2 ((fa_eq _ _).mpr e)
  have d0 : ¬ (104 : Int) = x.toInt := fun e => e0 e.symm
  have d1 : ¬ (111 : Int) = x.toInt := fun e => e1 e.symm
  have d2 : ¬ (113 : Int) = x.toInt := fun e => e2 e.symm
  simp [Op.lookupswitch.offset, e0, e1, e2, d0, d1, d2]
