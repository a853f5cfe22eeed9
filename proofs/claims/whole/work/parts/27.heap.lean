/-! ALL CELLS, as one list: A the ints by cell and place, L the longs -/
def kqF : Nat → Option Nat := fun j => if j < 6 then some (2 + j) else none
def iqF : Nat → Option Nat := fun j => if j = 0 then some 29 else if j = 1 then some 39 else none
def hp (A : Nat → Nat → Int32) (L : Nat → Nat → Int64) : zW := [lmO (A 0) (L 0), .inl (3, 6, .inr (.inr (.inr (.inr kqF)))), .inr (5, []), .inr (2, []), .inr (8, []), .inr (9, []), .inr (3, []), .inr (7, []), clO 8 (A 8), ar 4 (A 9), ar 6 (A 10), ar 6 (A 11), ar 6 (A 12), ar 6 (A 13), ar 7 (A 14), ar 7 (A 15), ar 5 (A 16), ar 32 (A 17), clO 18 (A 18), ar 4 (A 19), ar 6 (A 20), ar 6 (A 21), ar 6 (A 22), ar 6 (A 23), ar 7 (A 24), ar 7 (A 25), ar 5 (A 26), ar 32 (A 27), .inl (4, 2, .inr (.inr (.inr (.inr iqF)))), clO 29 (A 29), ar 4 (A 30), ar 6 (A 31), ar 6 (A 32), ar 6 (A 33), ar 6 (A 34), ar 7 (A 35), ar 7 (A 36), ar 5 (A 37), ar 32 (A 38), clO 39 (A 39), ar 4 (A 40), ar 6 (A 41), ar 6 (A 42), ar 6 (A 43), ar 6 (A 44), ar 7 (A 45), ar 7 (A 46), ar 5 (A 47), ar 32 (A 48), .inl (2, 2, .inl (A 49)), odO (A 50) (L 50), ar 6 (A 51), ar 6 (A 52), al 13 (L 53), woO (A 54), ar 7 (A 55), ar 7 (A 56), ar 7 (A 57), .inr (0, []), reO (A 59), ar 150 (A 60), ar 3 (A 61), moO (A 62) (L 62), ar 87 (A 63), ar 174 (A 64), .inl (2, 2, .inl (A 65)), ar 87 (A 66), ar 3 (A 67), ar 150 (A 68), ar 200 (A 69), al 546 (L 70), ar 7 (A 71), ar 7 (A 72), ar 7 (A 73)]
def cV (L : Nat → Nat → Int64) (k : Nat) (V : Nat → Int64) : Nat → Nat → Int64 := fun j => if j = k then V else L j
theorem cU_at (A : Nat → Nat → Int32) (k j : Nat) (V : Nat → Int32) : cU A k V j = if j = k then V else A j := rfl
theorem cV_self (L : Nat → Nat → Int64) (k : Nat) : cV L k (L k) = L := by
  funext j
  show (if j = k then L k else L j) = L j
  split
  · rename_i e
    rw [e]
  · rfl
theorem cU_self (X : Nat → Nat → Int32) (k : Nat) : cU X k (X k) = X := by
  funext j
  show (if j = k then X k else X j) = X j
  split
  · rename_i e
    rw [e]
  · rfl
theorem cV_at (L : Nat → Nat → Int64) (k j : Nat) (V : Nat → Int64) : cV L k V j = if j = k then V else L j := rfl
theorem hg0 (A : Nat → Nat → Int32) (L : Nat → Nat → Int64) : (hp A L)[0]? = some (lmO (A 0) (L 0)) := id rfl
theorem hg1 (A : Nat → Nat → Int32) (L : Nat → Nat → Int64) : (hp A L)[1]? = some (.inl (3, 6, .inr (.inr (.inr (.inr kqF))))) := id rfl
theorem hg2 (A : Nat → Nat → Int32) (L : Nat → Nat → Int64) : (hp A L)[2]? = some (.inr (5, [])) := id rfl
theorem hg3 (A : Nat → Nat → Int32) (L : Nat → Nat → Int64) : (hp A L)[3]? = some (.inr (2, [])) := id rfl
theorem hg4 (A : Nat → Nat → Int32) (L : Nat → Nat → Int64) : (hp A L)[4]? = some (.inr (8, [])) := id rfl
theorem hg5 (A : Nat → Nat → Int32) (L : Nat → Nat → Int64) : (hp A L)[5]? = some (.inr (9, [])) := id rfl
theorem hg6 (A : Nat → Nat → Int32) (L : Nat → Nat → Int64) : (hp A L)[6]? = some (.inr (3, [])) := id rfl
theorem hg7 (A : Nat → Nat → Int32) (L : Nat → Nat → Int64) : (hp A L)[7]? = some (.inr (7, [])) := id rfl
theorem hg8 (A : Nat → Nat → Int32) (L : Nat → Nat → Int64) : (hp A L)[8]? = some (clO 8 (A 8)) := id rfl
theorem hg9 (A : Nat → Nat → Int32) (L : Nat → Nat → Int64) : (hp A L)[9]? = some (ar 4 (A 9)) := id rfl
theorem hg10 (A : Nat → Nat → Int32) (L : Nat → Nat → Int64) : (hp A L)[10]? = some (ar 6 (A 10)) := id rfl
theorem hg11 (A : Nat → Nat → Int32) (L : Nat → Nat → Int64) : (hp A L)[11]? = some (ar 6 (A 11)) := id rfl
theorem hg12 (A : Nat → Nat → Int32) (L : Nat → Nat → Int64) : (hp A L)[12]? = some (ar 6 (A 12)) := id rfl
theorem hg13 (A : Nat → Nat → Int32) (L : Nat → Nat → Int64) : (hp A L)[13]? = some (ar 6 (A 13)) := id rfl
theorem hg14 (A : Nat → Nat → Int32) (L : Nat → Nat → Int64) : (hp A L)[14]? = some (ar 7 (A 14)) := id rfl
theorem hg15 (A : Nat → Nat → Int32) (L : Nat → Nat → Int64) : (hp A L)[15]? = some (ar 7 (A 15)) := id rfl
theorem hg16 (A : Nat → Nat → Int32) (L : Nat → Nat → Int64) : (hp A L)[16]? = some (ar 5 (A 16)) := id rfl
theorem hg17 (A : Nat → Nat → Int32) (L : Nat → Nat → Int64) : (hp A L)[17]? = some (ar 32 (A 17)) := id rfl
theorem hg18 (A : Nat → Nat → Int32) (L : Nat → Nat → Int64) : (hp A L)[18]? = some (clO 18 (A 18)) := id rfl
theorem hg19 (A : Nat → Nat → Int32) (L : Nat → Nat → Int64) : (hp A L)[19]? = some (ar 4 (A 19)) := id rfl
theorem hg20 (A : Nat → Nat → Int32) (L : Nat → Nat → Int64) : (hp A L)[20]? = some (ar 6 (A 20)) := id rfl
theorem hg21 (A : Nat → Nat → Int32) (L : Nat → Nat → Int64) : (hp A L)[21]? = some (ar 6 (A 21)) := id rfl
theorem hg22 (A : Nat → Nat → Int32) (L : Nat → Nat → Int64) : (hp A L)[22]? = some (ar 6 (A 22)) := id rfl
theorem hg23 (A : Nat → Nat → Int32) (L : Nat → Nat → Int64) : (hp A L)[23]? = some (ar 6 (A 23)) := id rfl
theorem hg24 (A : Nat → Nat → Int32) (L : Nat → Nat → Int64) : (hp A L)[24]? = some (ar 7 (A 24)) := id rfl
theorem hg25 (A : Nat → Nat → Int32) (L : Nat → Nat → Int64) : (hp A L)[25]? = some (ar 7 (A 25)) := id rfl
theorem hg26 (A : Nat → Nat → Int32) (L : Nat → Nat → Int64) : (hp A L)[26]? = some (ar 5 (A 26)) := id rfl
theorem hg27 (A : Nat → Nat → Int32) (L : Nat → Nat → Int64) : (hp A L)[27]? = some (ar 32 (A 27)) := id rfl
theorem hg28 (A : Nat → Nat → Int32) (L : Nat → Nat → Int64) : (hp A L)[28]? = some (.inl (4, 2, .inr (.inr (.inr (.inr iqF))))) := id rfl
theorem hg29 (A : Nat → Nat → Int32) (L : Nat → Nat → Int64) : (hp A L)[29]? = some (clO 29 (A 29)) := id rfl
theorem hg30 (A : Nat → Nat → Int32) (L : Nat → Nat → Int64) : (hp A L)[30]? = some (ar 4 (A 30)) := id rfl
theorem hg31 (A : Nat → Nat → Int32) (L : Nat → Nat → Int64) : (hp A L)[31]? = some (ar 6 (A 31)) := id rfl
theorem hg32 (A : Nat → Nat → Int32) (L : Nat → Nat → Int64) : (hp A L)[32]? = some (ar 6 (A 32)) := id rfl
theorem hg33 (A : Nat → Nat → Int32) (L : Nat → Nat → Int64) : (hp A L)[33]? = some (ar 6 (A 33)) := id rfl
theorem hg34 (A : Nat → Nat → Int32) (L : Nat → Nat → Int64) : (hp A L)[34]? = some (ar 6 (A 34)) := id rfl
theorem hg35 (A : Nat → Nat → Int32) (L : Nat → Nat → Int64) : (hp A L)[35]? = some (ar 7 (A 35)) := id rfl
theorem hg36 (A : Nat → Nat → Int32) (L : Nat → Nat → Int64) : (hp A L)[36]? = some (ar 7 (A 36)) := id rfl
theorem hg37 (A : Nat → Nat → Int32) (L : Nat → Nat → Int64) : (hp A L)[37]? = some (ar 5 (A 37)) := id rfl
theorem hg38 (A : Nat → Nat → Int32) (L : Nat → Nat → Int64) : (hp A L)[38]? = some (ar 32 (A 38)) := id rfl
theorem hg39 (A : Nat → Nat → Int32) (L : Nat → Nat → Int64) : (hp A L)[39]? = some (clO 39 (A 39)) := id rfl
theorem hg40 (A : Nat → Nat → Int32) (L : Nat → Nat → Int64) : (hp A L)[40]? = some (ar 4 (A 40)) := id rfl
theorem hg41 (A : Nat → Nat → Int32) (L : Nat → Nat → Int64) : (hp A L)[41]? = some (ar 6 (A 41)) := id rfl
theorem hg42 (A : Nat → Nat → Int32) (L : Nat → Nat → Int64) : (hp A L)[42]? = some (ar 6 (A 42)) := id rfl
theorem hg43 (A : Nat → Nat → Int32) (L : Nat → Nat → Int64) : (hp A L)[43]? = some (ar 6 (A 43)) := id rfl
theorem hg44 (A : Nat → Nat → Int32) (L : Nat → Nat → Int64) : (hp A L)[44]? = some (ar 6 (A 44)) := id rfl
theorem hg45 (A : Nat → Nat → Int32) (L : Nat → Nat → Int64) : (hp A L)[45]? = some (ar 7 (A 45)) := id rfl
theorem hg46 (A : Nat → Nat → Int32) (L : Nat → Nat → Int64) : (hp A L)[46]? = some (ar 7 (A 46)) := id rfl
theorem hg47 (A : Nat → Nat → Int32) (L : Nat → Nat → Int64) : (hp A L)[47]? = some (ar 5 (A 47)) := id rfl
theorem hg48 (A : Nat → Nat → Int32) (L : Nat → Nat → Int64) : (hp A L)[48]? = some (ar 32 (A 48)) := id rfl
theorem hg49 (A : Nat → Nat → Int32) (L : Nat → Nat → Int64) : (hp A L)[49]? = some (.inl (2, 2, .inl (A 49))) := id rfl
theorem hg50 (A : Nat → Nat → Int32) (L : Nat → Nat → Int64) : (hp A L)[50]? = some (odO (A 50) (L 50)) := id rfl
theorem hg51 (A : Nat → Nat → Int32) (L : Nat → Nat → Int64) : (hp A L)[51]? = some (ar 6 (A 51)) := id rfl
theorem hg52 (A : Nat → Nat → Int32) (L : Nat → Nat → Int64) : (hp A L)[52]? = some (ar 6 (A 52)) := id rfl
theorem hg53 (A : Nat → Nat → Int32) (L : Nat → Nat → Int64) : (hp A L)[53]? = some (al 13 (L 53)) := id rfl
theorem hg54 (A : Nat → Nat → Int32) (L : Nat → Nat → Int64) : (hp A L)[54]? = some (woO (A 54)) := id rfl
theorem hg55 (A : Nat → Nat → Int32) (L : Nat → Nat → Int64) : (hp A L)[55]? = some (ar 7 (A 55)) := id rfl
theorem hg56 (A : Nat → Nat → Int32) (L : Nat → Nat → Int64) : (hp A L)[56]? = some (ar 7 (A 56)) := id rfl
theorem hg57 (A : Nat → Nat → Int32) (L : Nat → Nat → Int64) : (hp A L)[57]? = some (ar 7 (A 57)) := id rfl
theorem hg58 (A : Nat → Nat → Int32) (L : Nat → Nat → Int64) : (hp A L)[58]? = some (.inr (0, [])) := id rfl
theorem hg59 (A : Nat → Nat → Int32) (L : Nat → Nat → Int64) : (hp A L)[59]? = some (reO (A 59)) := id rfl
theorem hg60 (A : Nat → Nat → Int32) (L : Nat → Nat → Int64) : (hp A L)[60]? = some (ar 150 (A 60)) := id rfl
theorem hg61 (A : Nat → Nat → Int32) (L : Nat → Nat → Int64) : (hp A L)[61]? = some (ar 3 (A 61)) := id rfl
theorem hg62 (A : Nat → Nat → Int32) (L : Nat → Nat → Int64) : (hp A L)[62]? = some (moO (A 62) (L 62)) := id rfl
theorem hg63 (A : Nat → Nat → Int32) (L : Nat → Nat → Int64) : (hp A L)[63]? = some (ar 87 (A 63)) := id rfl
theorem hg64 (A : Nat → Nat → Int32) (L : Nat → Nat → Int64) : (hp A L)[64]? = some (ar 174 (A 64)) := id rfl
theorem hg65 (A : Nat → Nat → Int32) (L : Nat → Nat → Int64) : (hp A L)[65]? = some (.inl (2, 2, .inl (A 65))) := id rfl
theorem hg66 (A : Nat → Nat → Int32) (L : Nat → Nat → Int64) : (hp A L)[66]? = some (ar 87 (A 66)) := id rfl
theorem hg67 (A : Nat → Nat → Int32) (L : Nat → Nat → Int64) : (hp A L)[67]? = some (ar 3 (A 67)) := id rfl
theorem hg68 (A : Nat → Nat → Int32) (L : Nat → Nat → Int64) : (hp A L)[68]? = some (ar 150 (A 68)) := id rfl
theorem hg69 (A : Nat → Nat → Int32) (L : Nat → Nat → Int64) : (hp A L)[69]? = some (ar 200 (A 69)) := id rfl
theorem hg70 (A : Nat → Nat → Int32) (L : Nat → Nat → Int64) : (hp A L)[70]? = some (al 546 (L 70)) := id rfl
theorem hg71 (A : Nat → Nat → Int32) (L : Nat → Nat → Int64) : (hp A L)[71]? = some (ar 7 (A 71)) := id rfl
theorem hg72 (A : Nat → Nat → Int32) (L : Nat → Nat → Int64) : (hp A L)[72]? = some (ar 7 (A 72)) := id rfl
theorem hg73 (A : Nat → Nat → Int32) (L : Nat → Nat → Int64) : (hp A L)[73]? = some (ar 7 (A 73)) := id rfl
theorem hg1001 (A : Nat → Nat → Int32) (L : Nat → Nat → Int64) : (hp A L)[1001]? = none := id rfl
theorem hg1002 (A : Nat → Nat → Int32) (L : Nat → Nat → Int64) : (hp A L)[1002]? = none := id rfl
theorem hg1003 (A : Nat → Nat → Int32) (L : Nat → Nat → Int64) : (hp A L)[1003]? = none := id rfl
theorem hg1000 (A : Nat → Nat → Int32) (L : Nat → Nat → Int64) : (hp A L)[1000]? = none := id rfl
theorem hg2000 (A : Nat → Nat → Int32) (L : Nat → Nat → Int64) : (hp A L)[2000]? = none := id rfl
theorem hs0 (A : Nat → Nat → Int32) (L : Nat → Nat → Int64) (V : Nat → Int32) (U : Nat → Int64) : (hp A L).set 0 (lmO V U) = hp (cU A 0 V) (cV L 0 U) := id rfl
theorem hs8 (A : Nat → Nat → Int32) (L : Nat → Nat → Int64) (V : Nat → Int32) : (hp A L).set 8 (clO 8 V) = hp (cU A 8 V) L := id rfl
theorem hs9 (A : Nat → Nat → Int32) (L : Nat → Nat → Int64) (V : Nat → Int32) : (hp A L).set 9 (ar 4 V) = hp (cU A 9 V) L := id rfl
theorem hs10 (A : Nat → Nat → Int32) (L : Nat → Nat → Int64) (V : Nat → Int32) : (hp A L).set 10 (ar 6 V) = hp (cU A 10 V) L := id rfl
theorem hs11 (A : Nat → Nat → Int32) (L : Nat → Nat → Int64) (V : Nat → Int32) : (hp A L).set 11 (ar 6 V) = hp (cU A 11 V) L := id rfl
theorem hs12 (A : Nat → Nat → Int32) (L : Nat → Nat → Int64) (V : Nat → Int32) : (hp A L).set 12 (ar 6 V) = hp (cU A 12 V) L := id rfl
theorem hs13 (A : Nat → Nat → Int32) (L : Nat → Nat → Int64) (V : Nat → Int32) : (hp A L).set 13 (ar 6 V) = hp (cU A 13 V) L := id rfl
theorem hs14 (A : Nat → Nat → Int32) (L : Nat → Nat → Int64) (V : Nat → Int32) : (hp A L).set 14 (ar 7 V) = hp (cU A 14 V) L := id rfl
theorem hs15 (A : Nat → Nat → Int32) (L : Nat → Nat → Int64) (V : Nat → Int32) : (hp A L).set 15 (ar 7 V) = hp (cU A 15 V) L := id rfl
theorem hs16 (A : Nat → Nat → Int32) (L : Nat → Nat → Int64) (V : Nat → Int32) : (hp A L).set 16 (ar 5 V) = hp (cU A 16 V) L := id rfl
theorem hs17 (A : Nat → Nat → Int32) (L : Nat → Nat → Int64) (V : Nat → Int32) : (hp A L).set 17 (ar 32 V) = hp (cU A 17 V) L := id rfl
theorem hs18 (A : Nat → Nat → Int32) (L : Nat → Nat → Int64) (V : Nat → Int32) : (hp A L).set 18 (clO 18 V) = hp (cU A 18 V) L := id rfl
theorem hs19 (A : Nat → Nat → Int32) (L : Nat → Nat → Int64) (V : Nat → Int32) : (hp A L).set 19 (ar 4 V) = hp (cU A 19 V) L := id rfl
theorem hs20 (A : Nat → Nat → Int32) (L : Nat → Nat → Int64) (V : Nat → Int32) : (hp A L).set 20 (ar 6 V) = hp (cU A 20 V) L := id rfl
theorem hs21 (A : Nat → Nat → Int32) (L : Nat → Nat → Int64) (V : Nat → Int32) : (hp A L).set 21 (ar 6 V) = hp (cU A 21 V) L := id rfl
theorem hs22 (A : Nat → Nat → Int32) (L : Nat → Nat → Int64) (V : Nat → Int32) : (hp A L).set 22 (ar 6 V) = hp (cU A 22 V) L := id rfl
theorem hs23 (A : Nat → Nat → Int32) (L : Nat → Nat → Int64) (V : Nat → Int32) : (hp A L).set 23 (ar 6 V) = hp (cU A 23 V) L := id rfl
theorem hs24 (A : Nat → Nat → Int32) (L : Nat → Nat → Int64) (V : Nat → Int32) : (hp A L).set 24 (ar 7 V) = hp (cU A 24 V) L := id rfl
theorem hs25 (A : Nat → Nat → Int32) (L : Nat → Nat → Int64) (V : Nat → Int32) : (hp A L).set 25 (ar 7 V) = hp (cU A 25 V) L := id rfl
theorem hs26 (A : Nat → Nat → Int32) (L : Nat → Nat → Int64) (V : Nat → Int32) : (hp A L).set 26 (ar 5 V) = hp (cU A 26 V) L := id rfl
theorem hs27 (A : Nat → Nat → Int32) (L : Nat → Nat → Int64) (V : Nat → Int32) : (hp A L).set 27 (ar 32 V) = hp (cU A 27 V) L := id rfl
theorem hs29 (A : Nat → Nat → Int32) (L : Nat → Nat → Int64) (V : Nat → Int32) : (hp A L).set 29 (clO 29 V) = hp (cU A 29 V) L := id rfl
theorem hs30 (A : Nat → Nat → Int32) (L : Nat → Nat → Int64) (V : Nat → Int32) : (hp A L).set 30 (ar 4 V) = hp (cU A 30 V) L := id rfl
theorem hs31 (A : Nat → Nat → Int32) (L : Nat → Nat → Int64) (V : Nat → Int32) : (hp A L).set 31 (ar 6 V) = hp (cU A 31 V) L := id rfl
theorem hs32 (A : Nat → Nat → Int32) (L : Nat → Nat → Int64) (V : Nat → Int32) : (hp A L).set 32 (ar 6 V) = hp (cU A 32 V) L := id rfl
theorem hs33 (A : Nat → Nat → Int32) (L : Nat → Nat → Int64) (V : Nat → Int32) : (hp A L).set 33 (ar 6 V) = hp (cU A 33 V) L := id rfl
theorem hs34 (A : Nat → Nat → Int32) (L : Nat → Nat → Int64) (V : Nat → Int32) : (hp A L).set 34 (ar 6 V) = hp (cU A 34 V) L := id rfl
theorem hs35 (A : Nat → Nat → Int32) (L : Nat → Nat → Int64) (V : Nat → Int32) : (hp A L).set 35 (ar 7 V) = hp (cU A 35 V) L := id rfl
theorem hs36 (A : Nat → Nat → Int32) (L : Nat → Nat → Int64) (V : Nat → Int32) : (hp A L).set 36 (ar 7 V) = hp (cU A 36 V) L := id rfl
theorem hs37 (A : Nat → Nat → Int32) (L : Nat → Nat → Int64) (V : Nat → Int32) : (hp A L).set 37 (ar 5 V) = hp (cU A 37 V) L := id rfl
theorem hs38 (A : Nat → Nat → Int32) (L : Nat → Nat → Int64) (V : Nat → Int32) : (hp A L).set 38 (ar 32 V) = hp (cU A 38 V) L := id rfl
theorem hs39 (A : Nat → Nat → Int32) (L : Nat → Nat → Int64) (V : Nat → Int32) : (hp A L).set 39 (clO 39 V) = hp (cU A 39 V) L := id rfl
theorem hs40 (A : Nat → Nat → Int32) (L : Nat → Nat → Int64) (V : Nat → Int32) : (hp A L).set 40 (ar 4 V) = hp (cU A 40 V) L := id rfl
theorem hs41 (A : Nat → Nat → Int32) (L : Nat → Nat → Int64) (V : Nat → Int32) : (hp A L).set 41 (ar 6 V) = hp (cU A 41 V) L := id rfl
theorem hs42 (A : Nat → Nat → Int32) (L : Nat → Nat → Int64) (V : Nat → Int32) : (hp A L).set 42 (ar 6 V) = hp (cU A 42 V) L := id rfl
theorem hs43 (A : Nat → Nat → Int32) (L : Nat → Nat → Int64) (V : Nat → Int32) : (hp A L).set 43 (ar 6 V) = hp (cU A 43 V) L := id rfl
theorem hs44 (A : Nat → Nat → Int32) (L : Nat → Nat → Int64) (V : Nat → Int32) : (hp A L).set 44 (ar 6 V) = hp (cU A 44 V) L := id rfl
theorem hs45 (A : Nat → Nat → Int32) (L : Nat → Nat → Int64) (V : Nat → Int32) : (hp A L).set 45 (ar 7 V) = hp (cU A 45 V) L := id rfl
theorem hs46 (A : Nat → Nat → Int32) (L : Nat → Nat → Int64) (V : Nat → Int32) : (hp A L).set 46 (ar 7 V) = hp (cU A 46 V) L := id rfl
theorem hs47 (A : Nat → Nat → Int32) (L : Nat → Nat → Int64) (V : Nat → Int32) : (hp A L).set 47 (ar 5 V) = hp (cU A 47 V) L := id rfl
theorem hs48 (A : Nat → Nat → Int32) (L : Nat → Nat → Int64) (V : Nat → Int32) : (hp A L).set 48 (ar 32 V) = hp (cU A 48 V) L := id rfl
theorem hs49 (A : Nat → Nat → Int32) (L : Nat → Nat → Int64) (V : Nat → Int32) : (hp A L).set 49 (.inl (2, 2, .inl V)) = hp (cU A 49 V) L := id rfl
theorem hs50 (A : Nat → Nat → Int32) (L : Nat → Nat → Int64) (V : Nat → Int32) (U : Nat → Int64) : (hp A L).set 50 (odO V U) = hp (cU A 50 V) (cV L 50 U) := id rfl
theorem hs51 (A : Nat → Nat → Int32) (L : Nat → Nat → Int64) (V : Nat → Int32) : (hp A L).set 51 (ar 6 V) = hp (cU A 51 V) L := id rfl
theorem hs52 (A : Nat → Nat → Int32) (L : Nat → Nat → Int64) (V : Nat → Int32) : (hp A L).set 52 (ar 6 V) = hp (cU A 52 V) L := id rfl
theorem hs53 (A : Nat → Nat → Int32) (L : Nat → Nat → Int64) (U : Nat → Int64) : (hp A L).set 53 (al 13 U) = hp A (cV L 53 U) := id rfl
theorem hs54 (A : Nat → Nat → Int32) (L : Nat → Nat → Int64) (V : Nat → Int32) : (hp A L).set 54 (woO V) = hp (cU A 54 V) L := id rfl
theorem hs55 (A : Nat → Nat → Int32) (L : Nat → Nat → Int64) (V : Nat → Int32) : (hp A L).set 55 (ar 7 V) = hp (cU A 55 V) L := id rfl
theorem hs56 (A : Nat → Nat → Int32) (L : Nat → Nat → Int64) (V : Nat → Int32) : (hp A L).set 56 (ar 7 V) = hp (cU A 56 V) L := id rfl
theorem hs57 (A : Nat → Nat → Int32) (L : Nat → Nat → Int64) (V : Nat → Int32) : (hp A L).set 57 (ar 7 V) = hp (cU A 57 V) L := id rfl
theorem hs59 (A : Nat → Nat → Int32) (L : Nat → Nat → Int64) (V : Nat → Int32) : (hp A L).set 59 (reO V) = hp (cU A 59 V) L := id rfl
theorem hs60 (A : Nat → Nat → Int32) (L : Nat → Nat → Int64) (V : Nat → Int32) : (hp A L).set 60 (ar 150 V) = hp (cU A 60 V) L := id rfl
theorem hs61 (A : Nat → Nat → Int32) (L : Nat → Nat → Int64) (V : Nat → Int32) : (hp A L).set 61 (ar 3 V) = hp (cU A 61 V) L := id rfl
theorem hs62 (A : Nat → Nat → Int32) (L : Nat → Nat → Int64) (V : Nat → Int32) (U : Nat → Int64) : (hp A L).set 62 (moO V U) = hp (cU A 62 V) (cV L 62 U) := id rfl
theorem hs63 (A : Nat → Nat → Int32) (L : Nat → Nat → Int64) (V : Nat → Int32) : (hp A L).set 63 (ar 87 V) = hp (cU A 63 V) L := id rfl
theorem hs64 (A : Nat → Nat → Int32) (L : Nat → Nat → Int64) (V : Nat → Int32) : (hp A L).set 64 (ar 174 V) = hp (cU A 64 V) L := id rfl
theorem hs65 (A : Nat → Nat → Int32) (L : Nat → Nat → Int64) (V : Nat → Int32) : (hp A L).set 65 (.inl (2, 2, .inl V)) = hp (cU A 65 V) L := id rfl
theorem hs66 (A : Nat → Nat → Int32) (L : Nat → Nat → Int64) (V : Nat → Int32) : (hp A L).set 66 (ar 87 V) = hp (cU A 66 V) L := id rfl
theorem hs67 (A : Nat → Nat → Int32) (L : Nat → Nat → Int64) (V : Nat → Int32) : (hp A L).set 67 (ar 3 V) = hp (cU A 67 V) L := id rfl
theorem hs68 (A : Nat → Nat → Int32) (L : Nat → Nat → Int64) (V : Nat → Int32) : (hp A L).set 68 (ar 150 V) = hp (cU A 68 V) L := id rfl
theorem hs69 (A : Nat → Nat → Int32) (L : Nat → Nat → Int64) (V : Nat → Int32) : (hp A L).set 69 (ar 200 V) = hp (cU A 69 V) L := id rfl
theorem hs70 (A : Nat → Nat → Int32) (L : Nat → Nat → Int64) (U : Nat → Int64) : (hp A L).set 70 (al 546 U) = hp A (cV L 70 U) := id rfl
theorem hs71 (A : Nat → Nat → Int32) (L : Nat → Nat → Int64) (V : Nat → Int32) : (hp A L).set 71 (ar 7 V) = hp (cU A 71 V) L := id rfl
theorem hs72 (A : Nat → Nat → Int32) (L : Nat → Nat → Int64) (V : Nat → Int32) : (hp A L).set 72 (ar 7 V) = hp (cU A 72 V) L := id rfl
theorem hs73 (A : Nat → Nat → Int32) (L : Nat → Nat → Int64) (V : Nat → Int32) : (hp A L).set 73 (ar 7 V) = hp (cU A 73 V) L := id rfl
theorem hlen (A : Nat → Nat → Int32) (L : Nat → Nat → Int64) : (hp A L).length = 74 := rfl
/-- the ints with the clearing at o being C -/
def cW (A : Nat → Nat → Int32) (o : Nat) (C : Nat → Nat → Int32) : Nat → Nat → Int32 := fun j => if o ≤ j ∧ j < o + 10 then C (j - o) else A j
theorem hc8 (A : Nat → Nat → Int32) (L : Nat → Nat → Int64) : ClAt (hp A L) 8 (fun k => A (8 + k)) := ⟨rfl, rfl, rfl, rfl, rfl, rfl, rfl, rfl, rfl, rfl⟩
theorem hw8 (A : Nat → Nat → Int32) (L : Nat → Nat → Int64) (C : Nat → Nat → Int32) : clW (hp A L) 8 C = hp (cW A 8 C) L := id rfl
theorem hc18 (A : Nat → Nat → Int32) (L : Nat → Nat → Int64) : ClAt (hp A L) 18 (fun k => A (18 + k)) := ⟨rfl, rfl, rfl, rfl, rfl, rfl, rfl, rfl, rfl, rfl⟩
theorem hw18 (A : Nat → Nat → Int32) (L : Nat → Nat → Int64) (C : Nat → Nat → Int32) : clW (hp A L) 18 C = hp (cW A 18 C) L := id rfl
theorem hc29 (A : Nat → Nat → Int32) (L : Nat → Nat → Int64) : ClAt (hp A L) 29 (fun k => A (29 + k)) := ⟨rfl, rfl, rfl, rfl, rfl, rfl, rfl, rfl, rfl, rfl⟩
theorem hw29 (A : Nat → Nat → Int32) (L : Nat → Nat → Int64) (C : Nat → Nat → Int32) : clW (hp A L) 29 C = hp (cW A 29 C) L := id rfl
theorem hc39 (A : Nat → Nat → Int32) (L : Nat → Nat → Int64) : ClAt (hp A L) 39 (fun k => A (39 + k)) := ⟨rfl, rfl, rfl, rfl, rfl, rfl, rfl, rfl, rfl, rfl⟩
theorem hw39 (A : Nat → Nat → Int32) (L : Nat → Nat → Int64) (C : Nat → Nat → Int32) : clW (hp A L) 39 C = hp (cW A 39 C) L := id rfl
theorem hk (A : Nat → Nat → Int32) (L : Nat → Nat → Int64) : KdAt (hp A L) := ⟨⟨kqF, rfl, fun j hj => if_pos hj⟩, rfl, rfl, rfl, rfl, rfl, rfl⟩
