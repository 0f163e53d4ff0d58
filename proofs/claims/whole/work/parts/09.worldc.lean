section WC
abbrev CS : Type := Nat → Nat → Nat → Nat
def su3 (c : CS) (k i j v : Nat) : CS := fun k' i' j' => if k' = k then (if i' = i then (if j' = j then v else c k' i' j') else c k' i' j') else c k' i' j'
abbrev tys3 (cI cS cZ : ClassId) : List (ClassId × FieldType) := [(cI, .int), (cS, .object "EpochTree$Server"), (cZ, .boolean)]
variable (cI cS cZ : ClassId) (c : CS) (ad : Nat → Nat)
def fSV (i : Nat) : List Value := [.int (Int32.ofNat (c 0 i 0)), .int (Int32.ofNat (c 1 i 0)), .int (Int32.ofNat (c 2 i 0)), .ref (ad (2 + 22 * i + 1)), .int (Int32.ofNat (c 3 i 0)), .int (Int32.ofNat (c 4 i 0)), .int (Int32.ofNat (c 5 i 0)), .ref (ad (2 + 22 * i + 12)), .ref (ad (2 + 22 * i + 2)), .ref (ad (2 + 22 * i + 3)), .ref (ad (2 + 22 * i + 4))]
def fEL (i : Nat) : List Value := [.ref (ad (2 + 22 * i + 7)), .ref (ad (2 + 22 * i + 8)), .ref (ad (2 + 22 * i + 9)), .ref (ad (2 + 22 * i + 10)), .ref (ad (2 + 22 * i + 11)), .int (Int32.ofNat (c 6 i 0))]
def fTR (i : Nat) : List Value := [.ref (ad (2 + 22 * i + 13)), .ref (ad (2 + 22 * i + 14)), .ref (ad (2 + 22 * i + 15)), .ref (ad (2 + 22 * i + 16)), .int (Int32.ofNat (c 7 i 0)), .int (Int32.ofNat (c 8 i 0))]
def fLK (i : Nat) : List Value := [.ref (ad (2 + 22 * i + 5)), .ref (ad (2 + 22 * i + 6)), .int (Int32.ofNat (c 9 i 0)), .int (Int32.ofNat (c 10 i 0)), .int (Int32.ofNat (c 11 i 0))]
def fTM (i : Nat) : List Value := [.int (Int32.ofNat (c 16 i 0)), .int (Int32.ofNat (c 17 i 0)), .int (Int32.ofNat (c 18 i 0)), .ref (ad (2 + 22 * i + 21))]
def fRU (i : Nat) : List Value := [.ref (ad (2 + 22 * i + 17)), .ref (ad (2 + 22 * i + 18)), .int (Int32.ofNat (c 12 i 0)), .int (Int32.ofNat (c 13 i 0))]
def fRD (i : Nat) : List Value := [.ref (ad (2 + 22 * i + 19)), .ref (ad (2 + 22 * i + 20)), .int (Int32.ofNat (c 14 i 0)), .int (Int32.ofNat (c 15 i 0))]
def svw (i : Nat) : va_W := [(ad (2 + 22 * i), .inr (3, fSV c ad i)), (ad (2 + 22 * i + 1), .inr (0, fEL c ad i)), (ad (2 + 22 * i + 2), .inr (5, fTR c ad i)), (ad (2 + 22 * i + 3), .inr (1, fLK c ad i)), (ad (2 + 22 * i + 4), .inr (4, fTM c ad i)), (ad (2 + 22 * i + 5), .inr (2, fRU c ad i)), (ad (2 + 22 * i + 6), .inr (2, fRD c ad i)), (ad (2 + 22 * i + 7), .inl (cI, 24, .inl (fun t => Int32.ofNat (c 20 i t)))), (ad (2 + 22 * i + 8), .inl (cI, 24, .inl (fun t => Int32.ofNat (c 21 i t)))), (ad (2 + 22 * i + 9), .inl (cI, 24, .inl (fun t => Int32.ofNat (c 22 i t)))), (ad (2 + 22 * i + 10), .inl (cI, 24, .inl (fun t => Int32.ofNat (c 23 i t)))), (ad (2 + 22 * i + 11), .inl (cI, 24, .inl (fun t => Int32.ofNat (c 24 i t)))), (ad (2 + 22 * i + 12), .inl (cI, 24, .inl (fun t => Int32.ofNat (c 25 i t)))), (ad (2 + 22 * i + 13), .inl (cI, 24, .inl (fun t => Int32.ofNat (c 26 i t)))), (ad (2 + 22 * i + 14), .inl (cI, 24, .inl (fun t => Int32.ofNat (c 27 i t)))), (ad (2 + 22 * i + 15), .inl (cI, 24, .inl (fun t => Int32.ofNat (c 28 i t)))), (ad (2 + 22 * i + 16), .inl (cI, 24, .inl (fun t => Int32.ofNat (c 29 i t)))), (ad (2 + 22 * i + 17), .inl (cI, 27, .inl (fun t => Int32.ofNat (c 30 i t)))), (ad (2 + 22 * i + 18), .inl (cI, 27, .inl (fun t => Int32.ofNat (c 31 i t)))), (ad (2 + 22 * i + 19), .inl (cI, 51, .inl (fun t => Int32.ofNat (c 32 i t)))), (ad (2 + 22 * i + 20), .inl (cI, 51, .inl (fun t => Int32.ofNat (c 33 i t)))), (ad (2 + 22 * i + 21), .inl (cI, 5, .inl (fun t => Int32.ofNat (c 34 i t))))]
def srvs (ad : Nat → Nat) : Nat → Option Nat := va_up (va_up (va_up (fun _ => none) 0 (some (ad 2))) 1 (some (ad 24))) 2 (some (ad 46))
def cwld : va_W := (ad 0, .inr (6, [.ref (ad 1)])) :: (ad 1, .inl (cS, 3, .inr (.inr (.inr (.inr (srvs ad)))))) :: (svw cI c ad 0 ++ (svw cI c ad 1 ++ svw cI c ad 2))
variable {cI cS cZ : ClassId} {c : CS} {ad : Nat → Nat} {i : Nat}
theorem cw_adr {c c' : CS} : (cwld cI cS c' ad).map Prod.fst = (cwld cI cS c ad).map Prod.fst := rfl
theorem srvs_at (hi : i < 3) : srvs ad i = some (ad (2 + 22 * i)) := by
  match i, hi with
  | 0, _ => rfl
  | 1, _ => rfl
  | 2, _ => rfl
theorem pl_ET : (cwld cI cS c ad)[0]? = some (ad 0, .inr (6, [.ref (ad 1)])) := rfl
theorem pl_AS : (cwld cI cS c ad)[1]? = some (ad 1, .inl (cS, 3, .inr (.inr (.inr (.inr (srvs ad)))))) := rfl
theorem pl_SV (hi : i < 3) : (cwld cI cS c ad)[2 + 22 * i]? = some (ad (2 + 22 * i), .inr (3, fSV c ad i)) := by
  match i, hi with
  | 0, _ => rfl
  | 1, _ => rfl
  | 2, _ => rfl
theorem ps_0 (hi : i < 3) {v : Nat} : (cwld cI cS c ad).set (2 + 22 * i) (ad (2 + 22 * i), .inr (3, (fSV c ad i).set 0 (.int (Int32.ofNat v)))) = cwld cI cS (su3 c 0 i 0 v) ad := by
  match i, hi with
  | 0, _ => rfl
  | 1, _ => rfl
  | 2, _ => rfl
theorem ps_1 (hi : i < 3) {v : Nat} : (cwld cI cS c ad).set (2 + 22 * i) (ad (2 + 22 * i), .inr (3, (fSV c ad i).set 1 (.int (Int32.ofNat v)))) = cwld cI cS (su3 c 1 i 0 v) ad := by
  match i, hi with
  | 0, _ => rfl
  | 1, _ => rfl
  | 2, _ => rfl
theorem ps_2 (hi : i < 3) {v : Nat} : (cwld cI cS c ad).set (2 + 22 * i) (ad (2 + 22 * i), .inr (3, (fSV c ad i).set 2 (.int (Int32.ofNat v)))) = cwld cI cS (su3 c 2 i 0 v) ad := by
  match i, hi with
  | 0, _ => rfl
  | 1, _ => rfl
  | 2, _ => rfl
theorem ps_3 (hi : i < 3) {v : Nat} : (cwld cI cS c ad).set (2 + 22 * i) (ad (2 + 22 * i), .inr (3, (fSV c ad i).set 4 (.int (Int32.ofNat v)))) = cwld cI cS (su3 c 3 i 0 v) ad := by
  match i, hi with
  | 0, _ => rfl
  | 1, _ => rfl
  | 2, _ => rfl
theorem ps_4 (hi : i < 3) {v : Nat} : (cwld cI cS c ad).set (2 + 22 * i) (ad (2 + 22 * i), .inr (3, (fSV c ad i).set 5 (.int (Int32.ofNat v)))) = cwld cI cS (su3 c 4 i 0 v) ad := by
  match i, hi with
  | 0, _ => rfl
  | 1, _ => rfl
  | 2, _ => rfl
theorem ps_5 (hi : i < 3) {v : Nat} : (cwld cI cS c ad).set (2 + 22 * i) (ad (2 + 22 * i), .inr (3, (fSV c ad i).set 6 (.int (Int32.ofNat v)))) = cwld cI cS (su3 c 5 i 0 v) ad := by
  match i, hi with
  | 0, _ => rfl
  | 1, _ => rfl
  | 2, _ => rfl
theorem pl_EL (hi : i < 3) : (cwld cI cS c ad)[2 + 22 * i + 1]? = some (ad (2 + 22 * i + 1), .inr (0, fEL c ad i)) := by
  match i, hi with
  | 0, _ => rfl
  | 1, _ => rfl
  | 2, _ => rfl
theorem ps_6 (hi : i < 3) {v : Nat} : (cwld cI cS c ad).set (2 + 22 * i + 1) (ad (2 + 22 * i + 1), .inr (0, (fEL c ad i).set 5 (.int (Int32.ofNat v)))) = cwld cI cS (su3 c 6 i 0 v) ad := by
  match i, hi with
  | 0, _ => rfl
  | 1, _ => rfl
  | 2, _ => rfl
theorem pl_TR (hi : i < 3) : (cwld cI cS c ad)[2 + 22 * i + 2]? = some (ad (2 + 22 * i + 2), .inr (5, fTR c ad i)) := by
  match i, hi with
  | 0, _ => rfl
  | 1, _ => rfl
  | 2, _ => rfl
theorem ps_7 (hi : i < 3) {v : Nat} : (cwld cI cS c ad).set (2 + 22 * i + 2) (ad (2 + 22 * i + 2), .inr (5, (fTR c ad i).set 4 (.int (Int32.ofNat v)))) = cwld cI cS (su3 c 7 i 0 v) ad := by
  match i, hi with
  | 0, _ => rfl
  | 1, _ => rfl
  | 2, _ => rfl
theorem ps_8 (hi : i < 3) {v : Nat} : (cwld cI cS c ad).set (2 + 22 * i + 2) (ad (2 + 22 * i + 2), .inr (5, (fTR c ad i).set 5 (.int (Int32.ofNat v)))) = cwld cI cS (su3 c 8 i 0 v) ad := by
  match i, hi with
  | 0, _ => rfl
  | 1, _ => rfl
  | 2, _ => rfl
theorem pl_LK (hi : i < 3) : (cwld cI cS c ad)[2 + 22 * i + 3]? = some (ad (2 + 22 * i + 3), .inr (1, fLK c ad i)) := by
  match i, hi with
  | 0, _ => rfl
  | 1, _ => rfl
  | 2, _ => rfl
theorem ps_9 (hi : i < 3) {v : Nat} : (cwld cI cS c ad).set (2 + 22 * i + 3) (ad (2 + 22 * i + 3), .inr (1, (fLK c ad i).set 2 (.int (Int32.ofNat v)))) = cwld cI cS (su3 c 9 i 0 v) ad := by
  match i, hi with
  | 0, _ => rfl
  | 1, _ => rfl
  | 2, _ => rfl
theorem ps_10 (hi : i < 3) {v : Nat} : (cwld cI cS c ad).set (2 + 22 * i + 3) (ad (2 + 22 * i + 3), .inr (1, (fLK c ad i).set 3 (.int (Int32.ofNat v)))) = cwld cI cS (su3 c 10 i 0 v) ad := by
  match i, hi with
  | 0, _ => rfl
  | 1, _ => rfl
  | 2, _ => rfl
theorem ps_11 (hi : i < 3) {v : Nat} : (cwld cI cS c ad).set (2 + 22 * i + 3) (ad (2 + 22 * i + 3), .inr (1, (fLK c ad i).set 4 (.int (Int32.ofNat v)))) = cwld cI cS (su3 c 11 i 0 v) ad := by
  match i, hi with
  | 0, _ => rfl
  | 1, _ => rfl
  | 2, _ => rfl
theorem pl_TM (hi : i < 3) : (cwld cI cS c ad)[2 + 22 * i + 4]? = some (ad (2 + 22 * i + 4), .inr (4, fTM c ad i)) := by
  match i, hi with
  | 0, _ => rfl
  | 1, _ => rfl
  | 2, _ => rfl
theorem ps_16 (hi : i < 3) {v : Nat} : (cwld cI cS c ad).set (2 + 22 * i + 4) (ad (2 + 22 * i + 4), .inr (4, (fTM c ad i).set 0 (.int (Int32.ofNat v)))) = cwld cI cS (su3 c 16 i 0 v) ad := by
  match i, hi with
  | 0, _ => rfl
  | 1, _ => rfl
  | 2, _ => rfl
theorem ps_17 (hi : i < 3) {v : Nat} : (cwld cI cS c ad).set (2 + 22 * i + 4) (ad (2 + 22 * i + 4), .inr (4, (fTM c ad i).set 1 (.int (Int32.ofNat v)))) = cwld cI cS (su3 c 17 i 0 v) ad := by
  match i, hi with
  | 0, _ => rfl
  | 1, _ => rfl
  | 2, _ => rfl
theorem ps_18 (hi : i < 3) {v : Nat} : (cwld cI cS c ad).set (2 + 22 * i + 4) (ad (2 + 22 * i + 4), .inr (4, (fTM c ad i).set 2 (.int (Int32.ofNat v)))) = cwld cI cS (su3 c 18 i 0 v) ad := by
  match i, hi with
  | 0, _ => rfl
  | 1, _ => rfl
  | 2, _ => rfl
theorem pl_RU (hi : i < 3) : (cwld cI cS c ad)[2 + 22 * i + 5]? = some (ad (2 + 22 * i + 5), .inr (2, fRU c ad i)) := by
  match i, hi with
  | 0, _ => rfl
  | 1, _ => rfl
  | 2, _ => rfl
theorem ps_12 (hi : i < 3) {v : Nat} : (cwld cI cS c ad).set (2 + 22 * i + 5) (ad (2 + 22 * i + 5), .inr (2, (fRU c ad i).set 2 (.int (Int32.ofNat v)))) = cwld cI cS (su3 c 12 i 0 v) ad := by
  match i, hi with
  | 0, _ => rfl
  | 1, _ => rfl
  | 2, _ => rfl
theorem ps_13 (hi : i < 3) {v : Nat} : (cwld cI cS c ad).set (2 + 22 * i + 5) (ad (2 + 22 * i + 5), .inr (2, (fRU c ad i).set 3 (.int (Int32.ofNat v)))) = cwld cI cS (su3 c 13 i 0 v) ad := by
  match i, hi with
  | 0, _ => rfl
  | 1, _ => rfl
  | 2, _ => rfl
theorem pl_RD (hi : i < 3) : (cwld cI cS c ad)[2 + 22 * i + 6]? = some (ad (2 + 22 * i + 6), .inr (2, fRD c ad i)) := by
  match i, hi with
  | 0, _ => rfl
  | 1, _ => rfl
  | 2, _ => rfl
theorem ps_14 (hi : i < 3) {v : Nat} : (cwld cI cS c ad).set (2 + 22 * i + 6) (ad (2 + 22 * i + 6), .inr (2, (fRD c ad i).set 2 (.int (Int32.ofNat v)))) = cwld cI cS (su3 c 14 i 0 v) ad := by
  match i, hi with
  | 0, _ => rfl
  | 1, _ => rfl
  | 2, _ => rfl
theorem ps_15 (hi : i < 3) {v : Nat} : (cwld cI cS c ad).set (2 + 22 * i + 6) (ad (2 + 22 * i + 6), .inr (2, (fRD c ad i).set 3 (.int (Int32.ofNat v)))) = cwld cI cS (su3 c 15 i 0 v) ad := by
  match i, hi with
  | 0, _ => rfl
  | 1, _ => rfl
  | 2, _ => rfl
theorem pl_20 (hi : i < 3) : (cwld cI cS c ad)[2 + 22 * i + 7]? = some (ad (2 + 22 * i + 7), .inl (cI, 24, .inl (fun t => Int32.ofNat (c 20 i t)))) := by
  match i, hi with
  | 0, _ => rfl
  | 1, _ => rfl
  | 2, _ => rfl
theorem ps_20 (hi : i < 3) {j v : Nat} : (cwld cI cS c ad).set (2 + 22 * i + 7) (ad (2 + 22 * i + 7), .inl (cI, 24, .inl (fun t => Int32.ofNat (if t = j then v else c 20 i t)))) = cwld cI cS (su3 c 20 i j v) ad := by
  match i, hi with
  | 0, _ => rfl
  | 1, _ => rfl
  | 2, _ => rfl
theorem pl_21 (hi : i < 3) : (cwld cI cS c ad)[2 + 22 * i + 8]? = some (ad (2 + 22 * i + 8), .inl (cI, 24, .inl (fun t => Int32.ofNat (c 21 i t)))) := by
  match i, hi with
  | 0, _ => rfl
  | 1, _ => rfl
  | 2, _ => rfl
theorem ps_21 (hi : i < 3) {j v : Nat} : (cwld cI cS c ad).set (2 + 22 * i + 8) (ad (2 + 22 * i + 8), .inl (cI, 24, .inl (fun t => Int32.ofNat (if t = j then v else c 21 i t)))) = cwld cI cS (su3 c 21 i j v) ad := by
  match i, hi with
  | 0, _ => rfl
  | 1, _ => rfl
  | 2, _ => rfl
theorem pl_22 (hi : i < 3) : (cwld cI cS c ad)[2 + 22 * i + 9]? = some (ad (2 + 22 * i + 9), .inl (cI, 24, .inl (fun t => Int32.ofNat (c 22 i t)))) := by
  match i, hi with
  | 0, _ => rfl
  | 1, _ => rfl
  | 2, _ => rfl
theorem ps_22 (hi : i < 3) {j v : Nat} : (cwld cI cS c ad).set (2 + 22 * i + 9) (ad (2 + 22 * i + 9), .inl (cI, 24, .inl (fun t => Int32.ofNat (if t = j then v else c 22 i t)))) = cwld cI cS (su3 c 22 i j v) ad := by
  match i, hi with
  | 0, _ => rfl
  | 1, _ => rfl
  | 2, _ => rfl
theorem pl_23 (hi : i < 3) : (cwld cI cS c ad)[2 + 22 * i + 10]? = some (ad (2 + 22 * i + 10), .inl (cI, 24, .inl (fun t => Int32.ofNat (c 23 i t)))) := by
  match i, hi with
  | 0, _ => rfl
  | 1, _ => rfl
  | 2, _ => rfl
theorem ps_23 (hi : i < 3) {j v : Nat} : (cwld cI cS c ad).set (2 + 22 * i + 10) (ad (2 + 22 * i + 10), .inl (cI, 24, .inl (fun t => Int32.ofNat (if t = j then v else c 23 i t)))) = cwld cI cS (su3 c 23 i j v) ad := by
  match i, hi with
  | 0, _ => rfl
  | 1, _ => rfl
  | 2, _ => rfl
theorem pl_24 (hi : i < 3) : (cwld cI cS c ad)[2 + 22 * i + 11]? = some (ad (2 + 22 * i + 11), .inl (cI, 24, .inl (fun t => Int32.ofNat (c 24 i t)))) := by
  match i, hi with
  | 0, _ => rfl
  | 1, _ => rfl
  | 2, _ => rfl
theorem ps_24 (hi : i < 3) {j v : Nat} : (cwld cI cS c ad).set (2 + 22 * i + 11) (ad (2 + 22 * i + 11), .inl (cI, 24, .inl (fun t => Int32.ofNat (if t = j then v else c 24 i t)))) = cwld cI cS (su3 c 24 i j v) ad := by
  match i, hi with
  | 0, _ => rfl
  | 1, _ => rfl
  | 2, _ => rfl
theorem pl_25 (hi : i < 3) : (cwld cI cS c ad)[2 + 22 * i + 12]? = some (ad (2 + 22 * i + 12), .inl (cI, 24, .inl (fun t => Int32.ofNat (c 25 i t)))) := by
  match i, hi with
  | 0, _ => rfl
  | 1, _ => rfl
  | 2, _ => rfl
theorem ps_25 (hi : i < 3) {j v : Nat} : (cwld cI cS c ad).set (2 + 22 * i + 12) (ad (2 + 22 * i + 12), .inl (cI, 24, .inl (fun t => Int32.ofNat (if t = j then v else c 25 i t)))) = cwld cI cS (su3 c 25 i j v) ad := by
  match i, hi with
  | 0, _ => rfl
  | 1, _ => rfl
  | 2, _ => rfl
theorem pl_26 (hi : i < 3) : (cwld cI cS c ad)[2 + 22 * i + 13]? = some (ad (2 + 22 * i + 13), .inl (cI, 24, .inl (fun t => Int32.ofNat (c 26 i t)))) := by
  match i, hi with
  | 0, _ => rfl
  | 1, _ => rfl
  | 2, _ => rfl
theorem ps_26 (hi : i < 3) {j v : Nat} : (cwld cI cS c ad).set (2 + 22 * i + 13) (ad (2 + 22 * i + 13), .inl (cI, 24, .inl (fun t => Int32.ofNat (if t = j then v else c 26 i t)))) = cwld cI cS (su3 c 26 i j v) ad := by
  match i, hi with
  | 0, _ => rfl
  | 1, _ => rfl
  | 2, _ => rfl
theorem pl_27 (hi : i < 3) : (cwld cI cS c ad)[2 + 22 * i + 14]? = some (ad (2 + 22 * i + 14), .inl (cI, 24, .inl (fun t => Int32.ofNat (c 27 i t)))) := by
  match i, hi with
  | 0, _ => rfl
  | 1, _ => rfl
  | 2, _ => rfl
theorem ps_27 (hi : i < 3) {j v : Nat} : (cwld cI cS c ad).set (2 + 22 * i + 14) (ad (2 + 22 * i + 14), .inl (cI, 24, .inl (fun t => Int32.ofNat (if t = j then v else c 27 i t)))) = cwld cI cS (su3 c 27 i j v) ad := by
  match i, hi with
  | 0, _ => rfl
  | 1, _ => rfl
  | 2, _ => rfl
theorem pl_28 (hi : i < 3) : (cwld cI cS c ad)[2 + 22 * i + 15]? = some (ad (2 + 22 * i + 15), .inl (cI, 24, .inl (fun t => Int32.ofNat (c 28 i t)))) := by
  match i, hi with
  | 0, _ => rfl
  | 1, _ => rfl
  | 2, _ => rfl
theorem ps_28 (hi : i < 3) {j v : Nat} : (cwld cI cS c ad).set (2 + 22 * i + 15) (ad (2 + 22 * i + 15), .inl (cI, 24, .inl (fun t => Int32.ofNat (if t = j then v else c 28 i t)))) = cwld cI cS (su3 c 28 i j v) ad := by
  match i, hi with
  | 0, _ => rfl
  | 1, _ => rfl
  | 2, _ => rfl
theorem pl_29 (hi : i < 3) : (cwld cI cS c ad)[2 + 22 * i + 16]? = some (ad (2 + 22 * i + 16), .inl (cI, 24, .inl (fun t => Int32.ofNat (c 29 i t)))) := by
  match i, hi with
  | 0, _ => rfl
  | 1, _ => rfl
  | 2, _ => rfl
theorem ps_29 (hi : i < 3) {j v : Nat} : (cwld cI cS c ad).set (2 + 22 * i + 16) (ad (2 + 22 * i + 16), .inl (cI, 24, .inl (fun t => Int32.ofNat (if t = j then v else c 29 i t)))) = cwld cI cS (su3 c 29 i j v) ad := by
  match i, hi with
  | 0, _ => rfl
  | 1, _ => rfl
  | 2, _ => rfl
theorem pl_30 (hi : i < 3) : (cwld cI cS c ad)[2 + 22 * i + 17]? = some (ad (2 + 22 * i + 17), .inl (cI, 27, .inl (fun t => Int32.ofNat (c 30 i t)))) := by
  match i, hi with
  | 0, _ => rfl
  | 1, _ => rfl
  | 2, _ => rfl
theorem ps_30 (hi : i < 3) {j v : Nat} : (cwld cI cS c ad).set (2 + 22 * i + 17) (ad (2 + 22 * i + 17), .inl (cI, 27, .inl (fun t => Int32.ofNat (if t = j then v else c 30 i t)))) = cwld cI cS (su3 c 30 i j v) ad := by
  match i, hi with
  | 0, _ => rfl
  | 1, _ => rfl
  | 2, _ => rfl
theorem pl_31 (hi : i < 3) : (cwld cI cS c ad)[2 + 22 * i + 18]? = some (ad (2 + 22 * i + 18), .inl (cI, 27, .inl (fun t => Int32.ofNat (c 31 i t)))) := by
  match i, hi with
  | 0, _ => rfl
  | 1, _ => rfl
  | 2, _ => rfl
theorem ps_31 (hi : i < 3) {j v : Nat} : (cwld cI cS c ad).set (2 + 22 * i + 18) (ad (2 + 22 * i + 18), .inl (cI, 27, .inl (fun t => Int32.ofNat (if t = j then v else c 31 i t)))) = cwld cI cS (su3 c 31 i j v) ad := by
  match i, hi with
  | 0, _ => rfl
  | 1, _ => rfl
  | 2, _ => rfl
theorem pl_32 (hi : i < 3) : (cwld cI cS c ad)[2 + 22 * i + 19]? = some (ad (2 + 22 * i + 19), .inl (cI, 51, .inl (fun t => Int32.ofNat (c 32 i t)))) := by
  match i, hi with
  | 0, _ => rfl
  | 1, _ => rfl
  | 2, _ => rfl
theorem ps_32 (hi : i < 3) {j v : Nat} : (cwld cI cS c ad).set (2 + 22 * i + 19) (ad (2 + 22 * i + 19), .inl (cI, 51, .inl (fun t => Int32.ofNat (if t = j then v else c 32 i t)))) = cwld cI cS (su3 c 32 i j v) ad := by
  match i, hi with
  | 0, _ => rfl
  | 1, _ => rfl
  | 2, _ => rfl
theorem pl_33 (hi : i < 3) : (cwld cI cS c ad)[2 + 22 * i + 20]? = some (ad (2 + 22 * i + 20), .inl (cI, 51, .inl (fun t => Int32.ofNat (c 33 i t)))) := by
  match i, hi with
  | 0, _ => rfl
  | 1, _ => rfl
  | 2, _ => rfl
theorem ps_33 (hi : i < 3) {j v : Nat} : (cwld cI cS c ad).set (2 + 22 * i + 20) (ad (2 + 22 * i + 20), .inl (cI, 51, .inl (fun t => Int32.ofNat (if t = j then v else c 33 i t)))) = cwld cI cS (su3 c 33 i j v) ad := by
  match i, hi with
  | 0, _ => rfl
  | 1, _ => rfl
  | 2, _ => rfl
theorem pl_34 (hi : i < 3) : (cwld cI cS c ad)[2 + 22 * i + 21]? = some (ad (2 + 22 * i + 21), .inl (cI, 5, .inl (fun t => Int32.ofNat (c 34 i t)))) := by
  match i, hi with
  | 0, _ => rfl
  | 1, _ => rfl
  | 2, _ => rfl
theorem ps_34 (hi : i < 3) {j v : Nat} : (cwld cI cS c ad).set (2 + 22 * i + 21) (ad (2 + 22 * i + 21), .inl (cI, 5, .inl (fun t => Int32.ofNat (if t = j then v else c 34 i t)))) = cwld cI cS (su3 c 34 i j v) ad := by
  match i, hi with
  | 0, _ => rfl
  | 1, _ => rfl
  | 2, _ => rfl
end WC
