/-! ===== THE TABLE HOLDS AT THE BEGINNING: cells 200 to 202; what is 0 there ===== -/
def ac_zB (h : am_H) (o n : Nat) : Bool := (List.range n).all (fun k => match h o k with
  | .int x => decide (x = 0)
  | _ => false)
def ac_fB (h : am_H) : Bool := [1, 6, 7, 8, 12, 13, 14, 17, 18, 19].all (fun k => match h 164 k with
  | .int x => decide (x = 0)
  | _ => false)
def ac_wB (h : am_H) : Bool := (List.range 101).all (fun k => match h 166 k with
  | .int x => decide (x = ab_words k)
  | _ => false)
set_option maxRecDepth 1000000 in
theorem ab_i5 : (((List.range 203).drop 200).all (fun o => ab_cellB am_h0 o) && (ac_zB am_h0 12 64 && ac_zB am_h0 33 64 && ac_zB am_h0 143 24 && ac_zB am_h0 144 24 && ac_zB am_h0 178 6 && ac_zB am_h0 181 128 && ac_zB am_h0 198 96 && ac_zB am_h0 200 340 && ac_zB am_h0 201 17) && (ac_fB am_h0 && ac_wB am_h0 && (match am_h0 0 1 with
  | .int x => decide (x = 0)
  | _ => false))) = true := by decide +kernel
