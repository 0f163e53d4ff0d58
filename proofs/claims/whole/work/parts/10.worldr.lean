section WR
abbrev RS : Type := Nat → Nat → Nat
def su2 (a : RS) (k j v : Nat) : RS := fun k' j' => if k' = k then (if j' = j then v else a k' j') else a k' j'
variable (cI cZ : ClassId) (a : RS) (ad : Nat → Nat)
def fRM : List Value := [.ref (ad 1), .ref (ad 2), .ref (ad 3), .ref (ad 4), .ref (ad 5), .ref (ad 6), .ref (ad 7), .ref (ad 8), .ref (ad 9), .ref (ad 10), .ref (ad 11), .ref (ad 12), .ref (ad 13), .ref (ad 14), .ref (ad 15), .ref (ad 16), .ref (ad 17), .ref (ad 18), .ref (ad 19), .ref (ad 20), .ref (ad 21), .ref (ad 22), .ref (ad 23), .ref (ad 24), .ref (ad 25), .ref (ad 26), .int (Int32.ofNat (a 32 0)), .ref (ad 27), .ref (ad 28), .ref (ad 29), .ref (ad 30), .ref (ad 31), .ref (ad 32)]
def rwld : va_W := [(ad 0, .inr (7, fRM a ad)), (ad 1, .inl (cI, 3, .inl (fun t => Int32.ofNat (a 0 t)))), (ad 2, .inl (cI, 3, .inl (fun t => Int32.ofNat (a 1 t)))), (ad 3, .inl (cI, 3, .inl (fun t => Int32.ofNat (a 2 t)))), (ad 4, .inl (cI, 3, .inl (fun t => Int32.ofNat (a 3 t)))), (ad 5, .inl (cI, 3, .inl (fun t => Int32.ofNat (a 4 t)))), (ad 6, .inl (cI, 72, .inl (fun t => Int32.ofNat (a 5 t)))), (ad 7, .inl (cI, 72, .inl (fun t => Int32.ofNat (a 6 t)))), (ad 8, .inl (cI, 72, .inl (fun t => Int32.ofNat (a 7 t)))), (ad 9, .inl (cI, 72, .inl (fun t => Int32.ofNat (a 8 t)))), (ad 10, .inl (cI, 72, .inl (fun t => Int32.ofNat (a 9 t)))), (ad 11, .inl (cI, 3, .inl (fun t => Int32.ofNat (a 10 t)))), (ad 12, .inl (cZ, 3, .inl (fun t => Int32.ofNat (a 11 t)))), (ad 13, .inl (cI, 3, .inl (fun t => Int32.ofNat (a 12 t)))), (ad 14, .inl (cI, 15, .inl (fun t => Int32.ofNat (a 13 t)))), (ad 15, .inl (cI, 3, .inl (fun t => Int32.ofNat (a 14 t)))), (ad 16, .inl (cZ, 3, .inl (fun t => Int32.ofNat (a 15 t)))), (ad 17, .inl (cZ, 3, .inl (fun t => Int32.ofNat (a 16 t)))), (ad 18, .inl (cZ, 3, .inl (fun t => Int32.ofNat (a 17 t)))), (ad 19, .inl (cI, 192, .inl (fun t => Int32.ofNat (a 18 t)))), (ad 20, .inl (cI, 192, .inl (fun t => Int32.ofNat (a 19 t)))), (ad 21, .inl (cI, 3, .inl (fun t => Int32.ofNat (a 20 t)))), (ad 22, .inl (cI, 3, .inl (fun t => Int32.ofNat (a 21 t)))), (ad 23, .inl (cI, 192, .inl (fun t => Int32.ofNat (a 22 t)))), (ad 24, .inl (cI, 192, .inl (fun t => Int32.ofNat (a 23 t)))), (ad 25, .inl (cI, 3, .inl (fun t => Int32.ofNat (a 24 t)))), (ad 26, .inl (cI, 3, .inl (fun t => Int32.ofNat (a 25 t)))), (ad 27, .inl (cI, 24, .inl (fun t => Int32.ofNat (a 26 t)))), (ad 28, .inl (cI, 24, .inl (fun t => Int32.ofNat (a 27 t)))), (ad 29, .inl (cI, 24, .inl (fun t => Int32.ofNat (a 28 t)))), (ad 30, .inl (cI, 24, .inl (fun t => Int32.ofNat (a 29 t)))), (ad 31, .inl (cZ, 5, .inl (fun t => Int32.ofNat (a 30 t)))), (ad 32, .inl (cI, 24, .inl (fun t => Int32.ofNat (a 31 t))))]
variable {cI cZ : ClassId} {a : RS} {ad : Nat → Nat}
theorem rw_adr {a a' : RS} : (rwld cI cZ a' ad).map Prod.fst = (rwld cI cZ a ad).map Prod.fst := rfl
theorem ql_RM : (rwld cI cZ a ad)[0]? = some (ad 0, .inr (7, fRM a ad)) := rfl
theorem qs_32 {v : Nat} : (rwld cI cZ a ad).set 0 (ad 0, .inr (7, (fRM a ad).set 26 (.int (Int32.ofNat v)))) = rwld cI cZ (su2 a 32 0 v) ad := rfl
theorem ql_0 : (rwld cI cZ a ad)[1]? = some (ad 1, .inl (cI, 3, .inl (fun t => Int32.ofNat (a 0 t)))) := rfl
theorem qs_0 {j v : Nat} : (rwld cI cZ a ad).set 1 (ad 1, .inl (cI, 3, .inl (fun t => Int32.ofNat (if t = j then v else a 0 t)))) = rwld cI cZ (su2 a 0 j v) ad := rfl
theorem ql_1 : (rwld cI cZ a ad)[2]? = some (ad 2, .inl (cI, 3, .inl (fun t => Int32.ofNat (a 1 t)))) := rfl
theorem qs_1 {j v : Nat} : (rwld cI cZ a ad).set 2 (ad 2, .inl (cI, 3, .inl (fun t => Int32.ofNat (if t = j then v else a 1 t)))) = rwld cI cZ (su2 a 1 j v) ad := rfl
theorem ql_2 : (rwld cI cZ a ad)[3]? = some (ad 3, .inl (cI, 3, .inl (fun t => Int32.ofNat (a 2 t)))) := rfl
theorem qs_2 {j v : Nat} : (rwld cI cZ a ad).set 3 (ad 3, .inl (cI, 3, .inl (fun t => Int32.ofNat (if t = j then v else a 2 t)))) = rwld cI cZ (su2 a 2 j v) ad := rfl
theorem ql_3 : (rwld cI cZ a ad)[4]? = some (ad 4, .inl (cI, 3, .inl (fun t => Int32.ofNat (a 3 t)))) := rfl
theorem qs_3 {j v : Nat} : (rwld cI cZ a ad).set 4 (ad 4, .inl (cI, 3, .inl (fun t => Int32.ofNat (if t = j then v else a 3 t)))) = rwld cI cZ (su2 a 3 j v) ad := rfl
theorem ql_4 : (rwld cI cZ a ad)[5]? = some (ad 5, .inl (cI, 3, .inl (fun t => Int32.ofNat (a 4 t)))) := rfl
theorem qs_4 {j v : Nat} : (rwld cI cZ a ad).set 5 (ad 5, .inl (cI, 3, .inl (fun t => Int32.ofNat (if t = j then v else a 4 t)))) = rwld cI cZ (su2 a 4 j v) ad := rfl
theorem ql_5 : (rwld cI cZ a ad)[6]? = some (ad 6, .inl (cI, 72, .inl (fun t => Int32.ofNat (a 5 t)))) := rfl
theorem qs_5 {j v : Nat} : (rwld cI cZ a ad).set 6 (ad 6, .inl (cI, 72, .inl (fun t => Int32.ofNat (if t = j then v else a 5 t)))) = rwld cI cZ (su2 a 5 j v) ad := rfl
theorem ql_6 : (rwld cI cZ a ad)[7]? = some (ad 7, .inl (cI, 72, .inl (fun t => Int32.ofNat (a 6 t)))) := rfl
theorem qs_6 {j v : Nat} : (rwld cI cZ a ad).set 7 (ad 7, .inl (cI, 72, .inl (fun t => Int32.ofNat (if t = j then v else a 6 t)))) = rwld cI cZ (su2 a 6 j v) ad := rfl
theorem ql_7 : (rwld cI cZ a ad)[8]? = some (ad 8, .inl (cI, 72, .inl (fun t => Int32.ofNat (a 7 t)))) := rfl
theorem qs_7 {j v : Nat} : (rwld cI cZ a ad).set 8 (ad 8, .inl (cI, 72, .inl (fun t => Int32.ofNat (if t = j then v else a 7 t)))) = rwld cI cZ (su2 a 7 j v) ad := rfl
theorem ql_8 : (rwld cI cZ a ad)[9]? = some (ad 9, .inl (cI, 72, .inl (fun t => Int32.ofNat (a 8 t)))) := rfl
theorem qs_8 {j v : Nat} : (rwld cI cZ a ad).set 9 (ad 9, .inl (cI, 72, .inl (fun t => Int32.ofNat (if t = j then v else a 8 t)))) = rwld cI cZ (su2 a 8 j v) ad := rfl
theorem ql_9 : (rwld cI cZ a ad)[10]? = some (ad 10, .inl (cI, 72, .inl (fun t => Int32.ofNat (a 9 t)))) := rfl
theorem qs_9 {j v : Nat} : (rwld cI cZ a ad).set 10 (ad 10, .inl (cI, 72, .inl (fun t => Int32.ofNat (if t = j then v else a 9 t)))) = rwld cI cZ (su2 a 9 j v) ad := rfl
theorem ql_10 : (rwld cI cZ a ad)[11]? = some (ad 11, .inl (cI, 3, .inl (fun t => Int32.ofNat (a 10 t)))) := rfl
theorem qs_10 {j v : Nat} : (rwld cI cZ a ad).set 11 (ad 11, .inl (cI, 3, .inl (fun t => Int32.ofNat (if t = j then v else a 10 t)))) = rwld cI cZ (su2 a 10 j v) ad := rfl
theorem ql_11 : (rwld cI cZ a ad)[12]? = some (ad 12, .inl (cZ, 3, .inl (fun t => Int32.ofNat (a 11 t)))) := rfl
theorem qs_11 {j v : Nat} : (rwld cI cZ a ad).set 12 (ad 12, .inl (cZ, 3, .inl (fun t => Int32.ofNat (if t = j then v else a 11 t)))) = rwld cI cZ (su2 a 11 j v) ad := rfl
theorem ql_12 : (rwld cI cZ a ad)[13]? = some (ad 13, .inl (cI, 3, .inl (fun t => Int32.ofNat (a 12 t)))) := rfl
theorem qs_12 {j v : Nat} : (rwld cI cZ a ad).set 13 (ad 13, .inl (cI, 3, .inl (fun t => Int32.ofNat (if t = j then v else a 12 t)))) = rwld cI cZ (su2 a 12 j v) ad := rfl
theorem ql_13 : (rwld cI cZ a ad)[14]? = some (ad 14, .inl (cI, 15, .inl (fun t => Int32.ofNat (a 13 t)))) := rfl
theorem qs_13 {j v : Nat} : (rwld cI cZ a ad).set 14 (ad 14, .inl (cI, 15, .inl (fun t => Int32.ofNat (if t = j then v else a 13 t)))) = rwld cI cZ (su2 a 13 j v) ad := rfl
theorem ql_14 : (rwld cI cZ a ad)[15]? = some (ad 15, .inl (cI, 3, .inl (fun t => Int32.ofNat (a 14 t)))) := rfl
theorem qs_14 {j v : Nat} : (rwld cI cZ a ad).set 15 (ad 15, .inl (cI, 3, .inl (fun t => Int32.ofNat (if t = j then v else a 14 t)))) = rwld cI cZ (su2 a 14 j v) ad := rfl
theorem ql_15 : (rwld cI cZ a ad)[16]? = some (ad 16, .inl (cZ, 3, .inl (fun t => Int32.ofNat (a 15 t)))) := rfl
theorem qs_15 {j v : Nat} : (rwld cI cZ a ad).set 16 (ad 16, .inl (cZ, 3, .inl (fun t => Int32.ofNat (if t = j then v else a 15 t)))) = rwld cI cZ (su2 a 15 j v) ad := rfl
theorem ql_16 : (rwld cI cZ a ad)[17]? = some (ad 17, .inl (cZ, 3, .inl (fun t => Int32.ofNat (a 16 t)))) := rfl
theorem qs_16 {j v : Nat} : (rwld cI cZ a ad).set 17 (ad 17, .inl (cZ, 3, .inl (fun t => Int32.ofNat (if t = j then v else a 16 t)))) = rwld cI cZ (su2 a 16 j v) ad := rfl
theorem ql_17 : (rwld cI cZ a ad)[18]? = some (ad 18, .inl (cZ, 3, .inl (fun t => Int32.ofNat (a 17 t)))) := rfl
theorem qs_17 {j v : Nat} : (rwld cI cZ a ad).set 18 (ad 18, .inl (cZ, 3, .inl (fun t => Int32.ofNat (if t = j then v else a 17 t)))) = rwld cI cZ (su2 a 17 j v) ad := rfl
theorem ql_18 : (rwld cI cZ a ad)[19]? = some (ad 19, .inl (cI, 192, .inl (fun t => Int32.ofNat (a 18 t)))) := rfl
theorem qs_18 {j v : Nat} : (rwld cI cZ a ad).set 19 (ad 19, .inl (cI, 192, .inl (fun t => Int32.ofNat (if t = j then v else a 18 t)))) = rwld cI cZ (su2 a 18 j v) ad := rfl
theorem ql_19 : (rwld cI cZ a ad)[20]? = some (ad 20, .inl (cI, 192, .inl (fun t => Int32.ofNat (a 19 t)))) := rfl
theorem qs_19 {j v : Nat} : (rwld cI cZ a ad).set 20 (ad 20, .inl (cI, 192, .inl (fun t => Int32.ofNat (if t = j then v else a 19 t)))) = rwld cI cZ (su2 a 19 j v) ad := rfl
theorem ql_20 : (rwld cI cZ a ad)[21]? = some (ad 21, .inl (cI, 3, .inl (fun t => Int32.ofNat (a 20 t)))) := rfl
theorem qs_20 {j v : Nat} : (rwld cI cZ a ad).set 21 (ad 21, .inl (cI, 3, .inl (fun t => Int32.ofNat (if t = j then v else a 20 t)))) = rwld cI cZ (su2 a 20 j v) ad := rfl
theorem ql_21 : (rwld cI cZ a ad)[22]? = some (ad 22, .inl (cI, 3, .inl (fun t => Int32.ofNat (a 21 t)))) := rfl
theorem qs_21 {j v : Nat} : (rwld cI cZ a ad).set 22 (ad 22, .inl (cI, 3, .inl (fun t => Int32.ofNat (if t = j then v else a 21 t)))) = rwld cI cZ (su2 a 21 j v) ad := rfl
theorem ql_22 : (rwld cI cZ a ad)[23]? = some (ad 23, .inl (cI, 192, .inl (fun t => Int32.ofNat (a 22 t)))) := rfl
theorem qs_22 {j v : Nat} : (rwld cI cZ a ad).set 23 (ad 23, .inl (cI, 192, .inl (fun t => Int32.ofNat (if t = j then v else a 22 t)))) = rwld cI cZ (su2 a 22 j v) ad := rfl
theorem ql_23 : (rwld cI cZ a ad)[24]? = some (ad 24, .inl (cI, 192, .inl (fun t => Int32.ofNat (a 23 t)))) := rfl
theorem qs_23 {j v : Nat} : (rwld cI cZ a ad).set 24 (ad 24, .inl (cI, 192, .inl (fun t => Int32.ofNat (if t = j then v else a 23 t)))) = rwld cI cZ (su2 a 23 j v) ad := rfl
theorem ql_24 : (rwld cI cZ a ad)[25]? = some (ad 25, .inl (cI, 3, .inl (fun t => Int32.ofNat (a 24 t)))) := rfl
theorem qs_24 {j v : Nat} : (rwld cI cZ a ad).set 25 (ad 25, .inl (cI, 3, .inl (fun t => Int32.ofNat (if t = j then v else a 24 t)))) = rwld cI cZ (su2 a 24 j v) ad := rfl
theorem ql_25 : (rwld cI cZ a ad)[26]? = some (ad 26, .inl (cI, 3, .inl (fun t => Int32.ofNat (a 25 t)))) := rfl
theorem qs_25 {j v : Nat} : (rwld cI cZ a ad).set 26 (ad 26, .inl (cI, 3, .inl (fun t => Int32.ofNat (if t = j then v else a 25 t)))) = rwld cI cZ (su2 a 25 j v) ad := rfl
theorem ql_26 : (rwld cI cZ a ad)[27]? = some (ad 27, .inl (cI, 24, .inl (fun t => Int32.ofNat (a 26 t)))) := rfl
theorem qs_26 {j v : Nat} : (rwld cI cZ a ad).set 27 (ad 27, .inl (cI, 24, .inl (fun t => Int32.ofNat (if t = j then v else a 26 t)))) = rwld cI cZ (su2 a 26 j v) ad := rfl
theorem ql_27 : (rwld cI cZ a ad)[28]? = some (ad 28, .inl (cI, 24, .inl (fun t => Int32.ofNat (a 27 t)))) := rfl
theorem qs_27 {j v : Nat} : (rwld cI cZ a ad).set 28 (ad 28, .inl (cI, 24, .inl (fun t => Int32.ofNat (if t = j then v else a 27 t)))) = rwld cI cZ (su2 a 27 j v) ad := rfl
theorem ql_28 : (rwld cI cZ a ad)[29]? = some (ad 29, .inl (cI, 24, .inl (fun t => Int32.ofNat (a 28 t)))) := rfl
theorem qs_28 {j v : Nat} : (rwld cI cZ a ad).set 29 (ad 29, .inl (cI, 24, .inl (fun t => Int32.ofNat (if t = j then v else a 28 t)))) = rwld cI cZ (su2 a 28 j v) ad := rfl
theorem ql_29 : (rwld cI cZ a ad)[30]? = some (ad 30, .inl (cI, 24, .inl (fun t => Int32.ofNat (a 29 t)))) := rfl
theorem qs_29 {j v : Nat} : (rwld cI cZ a ad).set 30 (ad 30, .inl (cI, 24, .inl (fun t => Int32.ofNat (if t = j then v else a 29 t)))) = rwld cI cZ (su2 a 29 j v) ad := rfl
theorem ql_30 : (rwld cI cZ a ad)[31]? = some (ad 31, .inl (cZ, 5, .inl (fun t => Int32.ofNat (a 30 t)))) := rfl
theorem qs_30 {j v : Nat} : (rwld cI cZ a ad).set 31 (ad 31, .inl (cZ, 5, .inl (fun t => Int32.ofNat (if t = j then v else a 30 t)))) = rwld cI cZ (su2 a 30 j v) ad := rfl
theorem ql_31 : (rwld cI cZ a ad)[32]? = some (ad 32, .inl (cI, 24, .inl (fun t => Int32.ofNat (a 31 t)))) := rfl
theorem qs_31 {j v : Nat} : (rwld cI cZ a ad).set 32 (ad 32, .inl (cI, 24, .inl (fun t => Int32.ofNat (if t = j then v else a 31 t)))) = rwld cI cZ (su2 a 31 j v) ad := rfl
end WR
