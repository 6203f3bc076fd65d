section FE2
set_option maxRecDepth 100000 in
theorem gF9_dev : gF9.1 16 1 = 0 := by decide +kernel
end FE2
