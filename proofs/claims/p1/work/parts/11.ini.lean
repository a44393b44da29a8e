/-! ===== THE START: the constructors, run by the kernel ===== -/
def am_mL : am_M := ((13, ⟨"AirBedLaw", "look", "(LAirBed;II[J)I"⟩, method_3_code), (5, some .int, 4), (9, 240, 4, 40), [])
def am_P1 (scr : Option (Nat × (Nat → Int32))) (lk : List Value → List am_k → am_H → Option am_O) : am_G := (fun a => am_prog[a]?, am_tys, am_nms, am_txt, scr, am_mL, lk)
def am_mkI (n : Nat) : Int32 := Int32.ofBitVec (BitVec.ofNat 32 n)
def am_mkL (n : Nat) : Int64 := Int64.ofBitVec (BitVec.ofNat 64 n)
/-- the same as going on at once, but that the kernel works the number out first -/
noncomputable def am_φF (v : Value) (k : Value → am_R) : am_R := match v with
  | .int x => Nat.rec (motive := fun _ => am_R) (k (.int (am_mkI 0))) (fun m _ => k (.int (am_mkI (m + 1)))) x.toBitVec.toNat
  | .long x => Nat.rec (motive := fun _ => am_R) (k (.long (am_mkL 0))) (fun m _ => k (.long (am_mkL (m + 1)))) x.toBitVec.toNat
  | v => k v
theorem am_φF_eq : am_φF = am_φ := by
  funext v k
  unfold am_φF am_φ
  split
  · rename_i x
    have h1 : am_mkI x.toBitVec.toNat = x := by simp [am_mkI]
    generalize x.toBitVec.toNat = n at h1
    subst h1
    cases n <;> rfl
  · rename_i x
    have h1 : am_mkL x.toBitVec.toNat = x := by simp [am_mkL]
    generalize x.toBitVec.toNat = n at h1
    subst h1
    cases n <;> rfl
  · rfl
