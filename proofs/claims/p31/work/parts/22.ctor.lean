/-! ===== THE CONSTRUCTORS, run by the kernel (written by wip/p1/mkctor.py) ===== -/
noncomputable def am_fn (n : Nat) (k : Nat → am_R) : am_R := Nat.rec (motive := fun _ => am_R) (k 0) (fun m _ => k (m + 1)) n
theorem am_fn_eq (n : Nat) (k : Nat → am_R) : am_fn n k = k n := by cases n <;> rfl
/-- a number is worked out ahead of its use -/
noncomputable def am_ff (v : Value) (k : Value → am_R) : am_R := match v with
  | .int x => am_fn x.toBitVec.toNat (fun n => k (.int (Int32.ofBitVec (BitVec.ofNat 32 n))))
  | .long x => am_fn x.toBitVec.toNat (fun n => k (.long (Int64.ofBitVec (BitVec.ofNat 64 n))))
  | v => k v
theorem am_ff_eq : am_ff = am_φ := by
  funext v k
  cases v <;> simp [am_ff, am_fn_eq, am_φ]
def am_G0 : am_G := am_P1 none (fun _ _ _ => none)
theorem am_noS_P1 (scr : Option (Nat × (Nat → Int32))) (lk : List Value → List am_k → am_H → Option am_O) : am_noS (am_P1 scr lk) = am_G0 := rfl
def am_ksA : List am_k := [.inl 0, .inr (.int, 700), .inl 1, .inr (.object "AirBed$Blower", 4), .inr (.int, 8), .inr (.int, 8), .inr (.int, 6), .inr (.int, 6), .inr (.int, 3), .inr (.int, 3), .inr (.int, 3), .inl 2, .inr (.int, 64), .inr (.int, 64), .inr (.int, 3), .inr (.int, 3), .inr (.boolean, 3), .inr (.long, 6), .inr (.long, 64), .inl 3, .inl 3, .inl 3, .inl 3, .inl 1, .inr (.object "AirBed$Blower", 4), .inr (.int, 8), .inr (.int, 8), .inr (.int, 6), .inr (.int, 6), .inr (.int, 3), .inr (.int, 3), .inr (.int, 3), .inl 2, .inr (.int, 64), .inr (.int, 64), .inr (.int, 3), .inr (.int, 3), .inr (.boolean, 3), .inr (.long, 6), .inr (.long, 64), .inl 3, .inl 3, .inl 3, .inl 3, .inl 4, .inr (.int, 20), .inr (.int, 0), .inr (.int, 72), .inl 5, .inr (.int, 4), .inr (.int, 4), .inr (.int, 4), .inl 5, .inr (.int, 4), .inr (.int, 4), .inr (.int, 4), .inl 5, .inr (.int, 4), .inr (.int, 4), .inr (.int, 4), .inl 6, .inr (.object "AirBed$State", 20), .inl 5, .inr (.int, 4), .inr (.int, 4), .inr (.int, 4), .inl 5, .inr (.int, 4), .inr (.int, 4), .inr (.int, 4), .inl 5, .inr (.int, 4), .inr (.int, 4), .inr (.int, 4), .inl 5, .inr (.int, 4), .inr (.int, 4), .inr (.int, 4), .inl 5, .inr (.int, 4), .inr (.int, 4), .inr (.int, 4), .inl 5, .inr (.int, 4), .inr (.int, 4), .inr (.int, 4), .inl 5, .inr (.int, 4), .inr (.int, 4), .inr (.int, 4), .inl 5, .inr (.int, 4), .inr (.int, 4), .inr (.int, 4), .inl 5, .inr (.int, 4), .inr (.int, 4), .inr (.int, 4), .inl 5, .inr (.int, 4), .inr (.int, 4), .inr (.int, 4), .inl 5, .inr (.int, 4), .inr (.int, 4), .inr (.int, 4), .inl 5, .inr (.int, 4), .inr (.int, 4), .inr (.int, 4), .inl 5, .inr (.int, 4), .inr (.int, 4), .inr (.int, 4), .inl 5, .inr (.int, 4), .inr (.int, 4), .inr (.int, 4), .inl 5, .inr (.int, 4), .inr (.int, 4), .inr (.int, 4), .inl 5, .inr (.int, 4), .inr (.int, 4), .inr (.int, 4), .inl 5, .inr (.int, 4), .inr (.int, 4), .inr (.int, 4), .inl 5, .inr (.int, 4), .inr (.int, 4), .inr (.int, 4), .inl 5, .inr (.int, 4), .inr (.int, 4), .inr (.int, 4), .inl 5, .inr (.int, 4), .inr (.int, 4), .inr (.int, 4), .inl 7, .inr (.int, 24), .inr (.int, 24), .inr (.int, 24), .inr (.int, 24), .inr (.boolean, 24), .inl 8, .inl 5, .inr (.int, 4), .inr (.int, 4), .inr (.int, 4), .inl 8, .inl 5, .inr (.int, 4), .inr (.int, 4), .inr (.int, 4), .inl 9, .inl 10, .inr (.int, 6), .inl 11, .inr (.long, 6), .inr (.int, 6)]
def am_ks0 : List am_k := [.inl 0, .inr (.int, 700), .inl 1, .inr (.object "AirBed$Blower", 4), .inr (.int, 8), .inr (.int, 8), .inr (.int, 6), .inr (.int, 6), .inr (.int, 3), .inr (.int, 3), .inr (.int, 3), .inl 2, .inr (.int, 64), .inr (.int, 64), .inr (.int, 3), .inr (.int, 3), .inr (.boolean, 3), .inr (.long, 6), .inr (.long, 64), .inl 3, .inl 3, .inl 3, .inl 3, .inl 1, .inr (.object "AirBed$Blower", 4), .inr (.int, 8), .inr (.int, 8), .inr (.int, 6), .inr (.int, 6), .inr (.int, 3), .inr (.int, 3), .inr (.int, 3), .inl 2, .inr (.int, 64), .inr (.int, 64), .inr (.int, 3), .inr (.int, 3), .inr (.boolean, 3), .inr (.long, 6), .inr (.long, 64), .inl 3, .inl 3, .inl 3, .inl 3, .inl 4, .inr (.int, 20), .inr (.int, 0), .inr (.int, 72), .inl 5, .inr (.int, 4), .inr (.int, 4), .inr (.int, 4), .inl 5, .inr (.int, 4), .inr (.int, 4), .inr (.int, 4), .inl 5, .inr (.int, 4), .inr (.int, 4), .inr (.int, 4), .inl 6, .inr (.object "AirBed$State", 20), .inl 5, .inr (.int, 4), .inr (.int, 4), .inr (.int, 4), .inl 5, .inr (.int, 4), .inr (.int, 4), .inr (.int, 4), .inl 5, .inr (.int, 4), .inr (.int, 4), .inr (.int, 4), .inl 5, .inr (.int, 4), .inr (.int, 4), .inr (.int, 4), .inl 5, .inr (.int, 4), .inr (.int, 4), .inr (.int, 4), .inl 5, .inr (.int, 4), .inr (.int, 4), .inr (.int, 4), .inl 5, .inr (.int, 4), .inr (.int, 4), .inr (.int, 4), .inl 5, .inr (.int, 4), .inr (.int, 4), .inr (.int, 4), .inl 5, .inr (.int, 4), .inr (.int, 4), .inr (.int, 4), .inl 5, .inr (.int, 4), .inr (.int, 4), .inr (.int, 4), .inl 5, .inr (.int, 4), .inr (.int, 4), .inr (.int, 4), .inl 5, .inr (.int, 4), .inr (.int, 4), .inr (.int, 4), .inl 5, .inr (.int, 4), .inr (.int, 4), .inr (.int, 4), .inl 5, .inr (.int, 4), .inr (.int, 4), .inr (.int, 4), .inl 5, .inr (.int, 4), .inr (.int, 4), .inr (.int, 4), .inl 5, .inr (.int, 4), .inr (.int, 4), .inr (.int, 4), .inl 5, .inr (.int, 4), .inr (.int, 4), .inr (.int, 4), .inl 5, .inr (.int, 4), .inr (.int, 4), .inr (.int, 4), .inl 5, .inr (.int, 4), .inr (.int, 4), .inr (.int, 4), .inl 5, .inr (.int, 4), .inr (.int, 4), .inr (.int, 4), .inl 7, .inr (.int, 24), .inr (.int, 24), .inr (.int, 24), .inr (.int, 24), .inr (.boolean, 24), .inl 8, .inl 5, .inr (.int, 4), .inr (.int, 4), .inr (.int, 4), .inl 8, .inl 5, .inr (.int, 4), .inr (.int, 4), .inr (.int, 4), .inl 9, .inl 10, .inr (.int, 6), .inl 11, .inr (.long, 6), .inr (.int, 6), .inl 12, .inr (.int, 700), .inr (.int, 101), .inr (.boolean, 4), .inr (.int, 12), .inr (.int, 8), .inr (.int, 56), .inr (.int, 16), .inr (.int, 16), .inr (.int, 12), .inr (.int, 12), .inr (.int, 6), .inr (.int, 6), .inr (.int, 6), .inr (.boolean, 6), .inr (.int, 6), .inr (.int, 6), .inr (.int, 128), .inr (.int, 128), .inr (.int, 128), .inr (.int, 96), .inr (.int, 96), .inr (.long, 6), .inr (.long, 64), .inr (.int, 4), .inr (.int, 4), .inr (.int, 4), .inr (.int, 16), .inr (.int, 16), .inr (.int, 16), .inr (.int, 4), .inr (.int, 4), .inr (.long, 6), .inr (.int, 6), .inr (.int, 96), .inr (.boolean, 24), .inr (.int, 340), .inr (.int, 17), .inr (.long, 1)]
def am_dflt (ci : Nat) : Nat → Value := fun j => defaultValue ((am_tys ci).getD j .int)
def am_hA0 : am_H := am_mk (fun _ _ => .int 0) 0 (am_dflt 0)
noncomputable def am_rA : Option am_O := am_run am_ff true 30000 am_G0 am_m0 (am_m0.2.2.2, lv_args 0 [.ref 0], [], [.inl 0], am_hA0, 0, 0)
def am_hof (d : am_H) (r : Option am_O) : am_H := match r with | some r => r.2.2 | none => d
noncomputable def am_hA : am_H := am_hof am_hA0 am_rA
noncomputable def am_hB0 : am_H := am_mk am_hA 164 (am_dflt 12)
noncomputable def am_rB : Option am_O := am_run am_ff true 30000 am_G0 am_m142 (am_m142.2.2.2, lv_args 0 [.ref 164], [], am_ksA ++ [.inl 12], am_hB0, 0, 0)
noncomputable def am_hB : am_H := am_hof am_hB0 am_rB
/-- the heap behind the constructors -/
noncomputable def am_h0 : am_H := am_mk am_hB 202 (fun _ => .long 0)
def am_isR (ks : List am_k) (r : Option am_O) : Bool := match r with
  | some (none, ks1, _) => decide (ks1 = ks)
  | _ => false
theorem am_isR_ok {ks : List am_k} {r : Option am_O} {d : am_H} (h : am_isR ks r = true) : r = some (none, ks, am_hof d r) := by
  unfold am_isR at h
  split at h
  · have := of_decide_eq_true h
    subst this
    rfl
  · cases h
set_option maxRecDepth 1000000 in
theorem am_rA_is : am_isR am_ksA am_rA = true := by decide +kernel
set_option maxRecDepth 1000000 in
theorem am_rB_is : am_isR (am_ks0.take 202) am_rB = true := by decide +kernel
theorem am_rA_ok : am_rA = some (none, am_ksA, am_hA) := by unfold am_hA; exact am_isR_ok am_rA_is
theorem am_rB_ok : am_rB = some (none, am_ks0.take 202, am_hB) := by unfold am_hB; exact am_isR_ok am_rB_is
