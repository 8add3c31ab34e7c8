/-! THE REFERENCE'S WORLD: the object at place 0, the array of field k at place k -/
def kM (p : Nat) : Nat := match p with
  | 0 => 12 | 46 => 15 | 48 => 15 | 65 => 14 | 66 => 14 | 67 => 14 | 68 => 14 | _ => 13
def nM (p : Nat) : Nat := match p with
  | 1 => 52 | 3 => 468 | 4 => 8 | 5 => 9 | 6 => 9 | 7 => 9 | 13 => 166400 | 14 => 12800 | 15 => 3200 | 18 => 424 | 30 => 2 | 34 => 400 | 43 => 52 | 44 => 16 | 45 => 16 | 46 => 16 | 48 => 16
  | 49 => 434112 | 50 => 1139544 | 51 => 54264 | 52 => 119 | 53 => 8 | 54 => 8 | 57 => 1000 | 59 => 400 | 60 => 400 | 62 => 12 | 63 => 12 | 64 => 12 | 65 => 54264 | 66 => 54264 | 67 => 13 | 68 => 13 | 69 => 54264 | 70 => 54264 | 71 => 12 | 72 => 12 | 73 => 12 | _ => 0
def pM (p k : Nat) : Option Nat := if p = 0 then (if rF 12 k = true then some k else none) else none
def oM (_ _ : Nat) : Option Nat := none
def plM : List Nat := [0, 1, 3, 4, 5, 6, 7, 13, 14, 15, 18, 30, 34, 43, 44, 45, 46, 48, 49, 50, 51, 52, 53, 54, 57, 59, 60, 62, 63, 64, 65, 66, 67, 68, 69, 70, 71, 72, 73]
abbrev mS (I A : Nat → Nat → Int32) (J : Nat → Nat → Int64) : HS := (kM, nM, I, pM, A, J, oM)
theorem bz_n {x : Int32} (h : x = 0 ∨ x = 1) : narrow .boolean (.int x) = .int x ∧ fits .boolean (.int x) = true := by rcases h with rfl | rfl <;> exact ⟨by decide +kernel, by decide +kernel⟩
theorem bz_v {x : Int32} (h : x = 0 ∨ x = 1) : vp_nar .boolean x = x := by rcases h with rfl | rfl <;> decide +kernel
/-- a contract of the reference's: the answer, and the new rows -/
abbrev PM (r0 : Option Value) (I A : Nat → Nat → Int32) (J : Nat → Nat → Int64) : Option Value → HS → List Nat → Prop := fun r σ' pl' => r = r0 ∧ σ' = mS I A J ∧ pl' = plM
theorem a_ldcw {X : Ctx} {cc : ByteArray} {own : String} {nL d mc ms : Nat} {σ : HS} {pl : List Nat} {k1 k2 pc : Nat} {ls : List (Nat × Value)} {st : List Value} (F : Fx X cc own nL d mc ms) {index : Nat} {v : Int32} (hw : Cond.constant own index v ∈ lwG) (hd : decode cc pc = .ok (.ldc_w index, 3)) (k : WA X σ pl k1 k2 (pc + 3) ls (.int v :: st)) : WA X σ pl k1 k2 pc ls st := fun ad H locs la hP hD hS hq hl => lv_ldcw F.x F.b F.o (F.t _ hw) hd (k ad H locs la hP hD hS hq hl)
