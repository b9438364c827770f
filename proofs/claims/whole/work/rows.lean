section
/-- a row of no weight: does a light round stand at all? -/
theorem zz_try : (1 : Nat) = 1 := rfl
end
