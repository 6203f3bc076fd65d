/-! the class alone, at the calls of REPORT.md's script -/
section FE
def scF : List Int32 := [0, 0,0,0,0,0,0, 0,1,0,0,0,0, 2,160,0,0,0,0, 5,3147900,5356092,0,0,0, 2,80,0,0,0,0, 5,3147900,5356092,0,0,0, 2,80,0,0,0,0, 5,3147900,5356092,0,0,0, 2,80,0,0,0,0, 9,1,1,0,0,0]
def xsF : Nat → Int32 := fun j => scF.getD j 0
def dF : Int64 := ((3147900 : Int32).toInt64 <<< ((32 : Int32).toInt64 &&& 63)) ||| ((5356092 : Int32).toInt64 &&& (4294967295 : Int64))
def fP (a : Int32) (γ : mmS) : mmS := (sp_b_power a γ).2
def fR (a : Int32) (γ : mmS) : mmS := (sp_b_run a γ).2
def fD (a : Int64) (γ : mmS) : mmS := (sp_b_disturb a γ).2
def gF0 : mmS := (sgI 0, sgJ)
def gF1 : mmS := fP 0 gF0
def gF2 : mmS := fP 1 gF1
def gF3 : mmS := fR 160 gF2
def gF4 : mmS := fD dF gF3
def gF5 : mmS := fR 80 gF4
def gF6 : mmS := fD dF gF5
def gF7 : mmS := fR 80 gF6
def gF8 : mmS := fD dF gF7
def gF9 : mmS := fR 80 gF8
theorem eF1 : fP 0 gF0 = gF1 := by unfold gF1; rfl
theorem eF2 : fP 1 gF1 = gF2 := by unfold gF2; rfl
theorem eF3 : fR 160 gF2 = gF3 := by unfold gF3; rfl
theorem eF4 : fD dF gF3 = gF4 := by unfold gF4; rfl
theorem eF5 : fR 80 gF4 = gF5 := by unfold gF5; rfl
theorem eF6 : fD dF gF5 = gF6 := by unfold gF6; rfl
theorem eF7 : fR 80 gF6 = gF7 := by unfold gF7; rfl
theorem eF8 : fD dF gF7 = gF8 := by unfold gF8; rfl
theorem eF9 : fR 80 gF8 = gF9 := by unfold gF9; rfl
set_option maxRecDepth 100000 in
theorem gF3_a : gF3.1 2 7 = 2 ∧ gF3.1 12 7 = 1 := by decide +kernel
end FE
