def NF : Nat := 100000
def oX : Sg := (f_X7_init NF).getD z0
theorem e_X7_init : f_X7_init NF = some oX := by
  have h : (f_X7_init NF).isSome = true := by decide +kernel
  obtain ⟨x, hx⟩ := Option.isSome_iff_exists.mp h
  rw [oX, hx]
  rfl
def oM : Sg := (f_X8_init NF).getD z0
theorem e_X8_init : f_X8_init NF = some oM := by
  have h : (f_X8_init NF).isSome = true := by decide +kernel
  obtain ⟨x, hx⟩ := Option.isSome_iff_exists.mp h
  rw [oM, hx]
  rfl
def sg0 : Sg := mrg2 36 33 (mrg2 0 36 z0 oX) oM
