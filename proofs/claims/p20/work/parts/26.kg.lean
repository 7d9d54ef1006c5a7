/-! reading and writing the arrays of ks, by place -/
theorem ksG2 (i : Nat → Int32) (a : Nat → List Int32) (q : Nat → List Int64) (r : Nat → Nat) : (ks i a q r)[2]? = some (.inr (.int, .inl (a 2))) := by rfl
set_option maxRecDepth 100000 in
theorem ksA2 (i : Nat → Int32) (a : Nat → List Int32) (q : Nat → List Int64) (r : Nat → Nat) (l : List Int32) : (ks i a q r).set 2 (.inr (.int, .inl l)) = ks i (ku a 2 l) q r := by rfl
theorem ksG3 (i : Nat → Int32) (a : Nat → List Int32) (q : Nat → List Int64) (r : Nat → Nat) : (ks i a q r)[3]? = some (.inr (.int, .inl (a 3))) := by rfl
set_option maxRecDepth 100000 in
theorem ksA3 (i : Nat → Int32) (a : Nat → List Int32) (q : Nat → List Int64) (r : Nat → Nat) (l : List Int32) : (ks i a q r).set 3 (.inr (.int, .inl l)) = ks i (ku a 3 l) q r := by rfl
theorem ksG4 (i : Nat → Int32) (a : Nat → List Int32) (q : Nat → List Int64) (r : Nat → Nat) : (ks i a q r)[4]? = some (.inr (.int, .inl (a 4))) := by rfl
set_option maxRecDepth 100000 in
theorem ksA4 (i : Nat → Int32) (a : Nat → List Int32) (q : Nat → List Int64) (r : Nat → Nat) (l : List Int32) : (ks i a q r).set 4 (.inr (.int, .inl l)) = ks i (ku a 4 l) q r := by rfl
theorem ksG5 (i : Nat → Int32) (a : Nat → List Int32) (q : Nat → List Int64) (r : Nat → Nat) : (ks i a q r)[5]? = some (.inr (.int, .inl (a 5))) := by rfl
set_option maxRecDepth 100000 in
theorem ksA5 (i : Nat → Int32) (a : Nat → List Int32) (q : Nat → List Int64) (r : Nat → Nat) (l : List Int32) : (ks i a q r).set 5 (.inr (.int, .inl l)) = ks i (ku a 5 l) q r := by rfl
theorem ksG6 (i : Nat → Int32) (a : Nat → List Int32) (q : Nat → List Int64) (r : Nat → Nat) : (ks i a q r)[6]? = some (.inr (.int, .inl (a 6))) := by rfl
set_option maxRecDepth 100000 in
theorem ksA6 (i : Nat → Int32) (a : Nat → List Int32) (q : Nat → List Int64) (r : Nat → Nat) (l : List Int32) : (ks i a q r).set 6 (.inr (.int, .inl l)) = ks i (ku a 6 l) q r := by rfl
theorem ksG8 (i : Nat → Int32) (a : Nat → List Int32) (q : Nat → List Int64) (r : Nat → Nat) : (ks i a q r)[8]? = some (.inr (.int, .inl (a 8))) := by rfl
set_option maxRecDepth 100000 in
theorem ksA8 (i : Nat → Int32) (a : Nat → List Int32) (q : Nat → List Int64) (r : Nat → Nat) (l : List Int32) : (ks i a q r).set 8 (.inr (.int, .inl l)) = ks i (ku a 8 l) q r := by rfl
theorem ksG9 (i : Nat → Int32) (a : Nat → List Int32) (q : Nat → List Int64) (r : Nat → Nat) : (ks i a q r)[9]? = some (.inr (.int, .inl (a 9))) := by rfl
set_option maxRecDepth 100000 in
theorem ksA9 (i : Nat → Int32) (a : Nat → List Int32) (q : Nat → List Int64) (r : Nat → Nat) (l : List Int32) : (ks i a q r).set 9 (.inr (.int, .inl l)) = ks i (ku a 9 l) q r := by rfl
theorem ksG11 (i : Nat → Int32) (a : Nat → List Int32) (q : Nat → List Int64) (r : Nat → Nat) : (ks i a q r)[11]? = some (.inr (.int, .inl (a 11))) := by rfl
set_option maxRecDepth 100000 in
theorem ksA11 (i : Nat → Int32) (a : Nat → List Int32) (q : Nat → List Int64) (r : Nat → Nat) (l : List Int32) : (ks i a q r).set 11 (.inr (.int, .inl l)) = ks i (ku a 11 l) q r := by rfl
theorem ksG12 (i : Nat → Int32) (a : Nat → List Int32) (q : Nat → List Int64) (r : Nat → Nat) : (ks i a q r)[12]? = some (.inr (.int, .inl (a 12))) := by rfl
set_option maxRecDepth 100000 in
theorem ksA12 (i : Nat → Int32) (a : Nat → List Int32) (q : Nat → List Int64) (r : Nat → Nat) (l : List Int32) : (ks i a q r).set 12 (.inr (.int, .inl l)) = ks i (ku a 12 l) q r := by rfl
theorem ksG13 (i : Nat → Int32) (a : Nat → List Int32) (q : Nat → List Int64) (r : Nat → Nat) : (ks i a q r)[13]? = some (.inr (.int, .inl (a 13))) := by rfl
set_option maxRecDepth 100000 in
theorem ksA13 (i : Nat → Int32) (a : Nat → List Int32) (q : Nat → List Int64) (r : Nat → Nat) (l : List Int32) : (ks i a q r).set 13 (.inr (.int, .inl l)) = ks i (ku a 13 l) q r := by rfl
theorem ksG14 (i : Nat → Int32) (a : Nat → List Int32) (q : Nat → List Int64) (r : Nat → Nat) : (ks i a q r)[14]? = some (.inr (.int, .inl (a 14))) := by rfl
set_option maxRecDepth 100000 in
theorem ksA14 (i : Nat → Int32) (a : Nat → List Int32) (q : Nat → List Int64) (r : Nat → Nat) (l : List Int32) : (ks i a q r).set 14 (.inr (.int, .inl l)) = ks i (ku a 14 l) q r := by rfl
theorem ksG16 (i : Nat → Int32) (a : Nat → List Int32) (q : Nat → List Int64) (r : Nat → Nat) : (ks i a q r)[16]? = some (.inr (.int, .inl (a 16))) := by rfl
set_option maxRecDepth 100000 in
theorem ksA16 (i : Nat → Int32) (a : Nat → List Int32) (q : Nat → List Int64) (r : Nat → Nat) (l : List Int32) : (ks i a q r).set 16 (.inr (.int, .inl l)) = ks i (ku a 16 l) q r := by rfl
theorem ksG17 (i : Nat → Int32) (a : Nat → List Int32) (q : Nat → List Int64) (r : Nat → Nat) : (ks i a q r)[17]? = some (.inr (.int, .inl (a 17))) := by rfl
set_option maxRecDepth 100000 in
theorem ksA17 (i : Nat → Int32) (a : Nat → List Int32) (q : Nat → List Int64) (r : Nat → Nat) (l : List Int32) : (ks i a q r).set 17 (.inr (.int, .inl l)) = ks i (ku a 17 l) q r := by rfl
theorem ksG18 (i : Nat → Int32) (a : Nat → List Int32) (q : Nat → List Int64) (r : Nat → Nat) : (ks i a q r)[18]? = some (.inr (.int, .inl (a 18))) := by rfl
set_option maxRecDepth 100000 in
theorem ksA18 (i : Nat → Int32) (a : Nat → List Int32) (q : Nat → List Int64) (r : Nat → Nat) (l : List Int32) : (ks i a q r).set 18 (.inr (.int, .inl l)) = ks i (ku a 18 l) q r := by rfl
theorem ksG19 (i : Nat → Int32) (a : Nat → List Int32) (q : Nat → List Int64) (r : Nat → Nat) : (ks i a q r)[19]? = some (.inr (.int, .inl (a 19))) := by rfl
set_option maxRecDepth 100000 in
theorem ksA19 (i : Nat → Int32) (a : Nat → List Int32) (q : Nat → List Int64) (r : Nat → Nat) (l : List Int32) : (ks i a q r).set 19 (.inr (.int, .inl l)) = ks i (ku a 19 l) q r := by rfl
theorem ksG20 (i : Nat → Int32) (a : Nat → List Int32) (q : Nat → List Int64) (r : Nat → Nat) : (ks i a q r)[20]? = some (.inr (.int, .inl (a 20))) := by rfl
set_option maxRecDepth 100000 in
theorem ksA20 (i : Nat → Int32) (a : Nat → List Int32) (q : Nat → List Int64) (r : Nat → Nat) (l : List Int32) : (ks i a q r).set 20 (.inr (.int, .inl l)) = ks i (ku a 20 l) q r := by rfl
theorem ksG21 (i : Nat → Int32) (a : Nat → List Int32) (q : Nat → List Int64) (r : Nat → Nat) : (ks i a q r)[21]? = some (.inr (.int, .inl (a 21))) := by rfl
set_option maxRecDepth 100000 in
theorem ksA21 (i : Nat → Int32) (a : Nat → List Int32) (q : Nat → List Int64) (r : Nat → Nat) (l : List Int32) : (ks i a q r).set 21 (.inr (.int, .inl l)) = ks i (ku a 21 l) q r := by rfl
theorem ksG22 (i : Nat → Int32) (a : Nat → List Int32) (q : Nat → List Int64) (r : Nat → Nat) : (ks i a q r)[22]? = some (.inr (.int, .inl (a 22))) := by rfl
set_option maxRecDepth 100000 in
theorem ksA22 (i : Nat → Int32) (a : Nat → List Int32) (q : Nat → List Int64) (r : Nat → Nat) (l : List Int32) : (ks i a q r).set 22 (.inr (.int, .inl l)) = ks i (ku a 22 l) q r := by rfl
theorem ksG23 (i : Nat → Int32) (a : Nat → List Int32) (q : Nat → List Int64) (r : Nat → Nat) : (ks i a q r)[23]? = some (.inr (.int, .inl (a 23))) := by rfl
set_option maxRecDepth 100000 in
theorem ksA23 (i : Nat → Int32) (a : Nat → List Int32) (q : Nat → List Int64) (r : Nat → Nat) (l : List Int32) : (ks i a q r).set 23 (.inr (.int, .inl l)) = ks i (ku a 23 l) q r := by rfl
theorem ksG24 (i : Nat → Int32) (a : Nat → List Int32) (q : Nat → List Int64) (r : Nat → Nat) : (ks i a q r)[24]? = some (.inr (.int, .inl (a 24))) := by rfl
set_option maxRecDepth 100000 in
theorem ksA24 (i : Nat → Int32) (a : Nat → List Int32) (q : Nat → List Int64) (r : Nat → Nat) (l : List Int32) : (ks i a q r).set 24 (.inr (.int, .inl l)) = ks i (ku a 24 l) q r := by rfl
theorem ksG26 (i : Nat → Int32) (a : Nat → List Int32) (q : Nat → List Int64) (r : Nat → Nat) : (ks i a q r)[26]? = some (.inr (.int, .inl (a 26))) := by rfl
set_option maxRecDepth 100000 in
theorem ksA26 (i : Nat → Int32) (a : Nat → List Int32) (q : Nat → List Int64) (r : Nat → Nat) (l : List Int32) : (ks i a q r).set 26 (.inr (.int, .inl l)) = ks i (ku a 26 l) q r := by rfl
theorem ksG30 (i : Nat → Int32) (a : Nat → List Int32) (q : Nat → List Int64) (r : Nat → Nat) : (ks i a q r)[30]? = some (.inr (.int, .inl (a 30))) := by rfl
set_option maxRecDepth 100000 in
theorem ksA30 (i : Nat → Int32) (a : Nat → List Int32) (q : Nat → List Int64) (r : Nat → Nat) (l : List Int32) : (ks i a q r).set 30 (.inr (.int, .inl l)) = ks i (ku a 30 l) q r := by rfl
theorem ksG32 (i : Nat → Int32) (a : Nat → List Int32) (q : Nat → List Int64) (r : Nat → Nat) : (ks i a q r)[32]? = some (.inr (.int, .inl (a 32))) := by rfl
set_option maxRecDepth 100000 in
theorem ksA32 (i : Nat → Int32) (a : Nat → List Int32) (q : Nat → List Int64) (r : Nat → Nat) (l : List Int32) : (ks i a q r).set 32 (.inr (.int, .inl l)) = ks i (ku a 32 l) q r := by rfl
theorem ksG33 (i : Nat → Int32) (a : Nat → List Int32) (q : Nat → List Int64) (r : Nat → Nat) : (ks i a q r)[33]? = some (.inr (.int, .inl (a 33))) := by rfl
set_option maxRecDepth 100000 in
theorem ksA33 (i : Nat → Int32) (a : Nat → List Int32) (q : Nat → List Int64) (r : Nat → Nat) (l : List Int32) : (ks i a q r).set 33 (.inr (.int, .inl l)) = ks i (ku a 33 l) q r := by rfl
theorem ksG38 (i : Nat → Int32) (a : Nat → List Int32) (q : Nat → List Int64) (r : Nat → Nat) : (ks i a q r)[38]? = some (.inr (.int, .inl (a 38))) := by rfl
set_option maxRecDepth 100000 in
theorem ksA38 (i : Nat → Int32) (a : Nat → List Int32) (q : Nat → List Int64) (r : Nat → Nat) (l : List Int32) : (ks i a q r).set 38 (.inr (.int, .inl l)) = ks i (ku a 38 l) q r := by rfl
theorem ksG51 (i : Nat → Int32) (a : Nat → List Int32) (q : Nat → List Int64) (r : Nat → Nat) : (ks i a q r)[51]? = some (.inr (.int, .inl (a 51))) := by rfl
set_option maxRecDepth 100000 in
theorem ksA51 (i : Nat → Int32) (a : Nat → List Int32) (q : Nat → List Int64) (r : Nat → Nat) (l : List Int32) : (ks i a q r).set 51 (.inr (.int, .inl l)) = ks i (ku a 51 l) q r := by rfl
theorem ksG52 (i : Nat → Int32) (a : Nat → List Int32) (q : Nat → List Int64) (r : Nat → Nat) : (ks i a q r)[52]? = some (.inr (.int, .inl (a 52))) := by rfl
set_option maxRecDepth 100000 in
theorem ksA52 (i : Nat → Int32) (a : Nat → List Int32) (q : Nat → List Int64) (r : Nat → Nat) (l : List Int32) : (ks i a q r).set 52 (.inr (.int, .inl l)) = ks i (ku a 52 l) q r := by rfl
theorem ksG53 (i : Nat → Int32) (a : Nat → List Int32) (q : Nat → List Int64) (r : Nat → Nat) : (ks i a q r)[53]? = some (.inr (.int, .inl (a 53))) := by rfl
set_option maxRecDepth 100000 in
theorem ksA53 (i : Nat → Int32) (a : Nat → List Int32) (q : Nat → List Int64) (r : Nat → Nat) (l : List Int32) : (ks i a q r).set 53 (.inr (.int, .inl l)) = ks i (ku a 53 l) q r := by rfl
theorem ksG54 (i : Nat → Int32) (a : Nat → List Int32) (q : Nat → List Int64) (r : Nat → Nat) : (ks i a q r)[54]? = some (.inr (.int, .inl (a 54))) := by rfl
set_option maxRecDepth 100000 in
theorem ksA54 (i : Nat → Int32) (a : Nat → List Int32) (q : Nat → List Int64) (r : Nat → Nat) (l : List Int32) : (ks i a q r).set 54 (.inr (.int, .inl l)) = ks i (ku a 54 l) q r := by rfl
theorem ksG55 (i : Nat → Int32) (a : Nat → List Int32) (q : Nat → List Int64) (r : Nat → Nat) : (ks i a q r)[55]? = some (.inr (.int, .inl (a 55))) := by rfl
set_option maxRecDepth 100000 in
theorem ksA55 (i : Nat → Int32) (a : Nat → List Int32) (q : Nat → List Int64) (r : Nat → Nat) (l : List Int32) : (ks i a q r).set 55 (.inr (.int, .inl l)) = ks i (ku a 55 l) q r := by rfl
theorem ksG57 (i : Nat → Int32) (a : Nat → List Int32) (q : Nat → List Int64) (r : Nat → Nat) : (ks i a q r)[57]? = some (.inr (.int, .inl (a 57))) := by rfl
set_option maxRecDepth 100000 in
theorem ksA57 (i : Nat → Int32) (a : Nat → List Int32) (q : Nat → List Int64) (r : Nat → Nat) (l : List Int32) : (ks i a q r).set 57 (.inr (.int, .inl l)) = ks i (ku a 57 l) q r := by rfl
theorem ksG58 (i : Nat → Int32) (a : Nat → List Int32) (q : Nat → List Int64) (r : Nat → Nat) : (ks i a q r)[58]? = some (.inr (.int, .inl (a 58))) := by rfl
set_option maxRecDepth 100000 in
theorem ksA58 (i : Nat → Int32) (a : Nat → List Int32) (q : Nat → List Int64) (r : Nat → Nat) (l : List Int32) : (ks i a q r).set 58 (.inr (.int, .inl l)) = ks i (ku a 58 l) q r := by rfl
theorem ksG60 (i : Nat → Int32) (a : Nat → List Int32) (q : Nat → List Int64) (r : Nat → Nat) : (ks i a q r)[60]? = some (.inr (.int, .inl (a 60))) := by rfl
theorem ksG61 (i : Nat → Int32) (a : Nat → List Int32) (q : Nat → List Int64) (r : Nat → Nat) : (ks i a q r)[61]? = some (.inr (.int, .inl (a 61))) := by rfl
theorem ksG62 (i : Nat → Int32) (a : Nat → List Int32) (q : Nat → List Int64) (r : Nat → Nat) : (ks i a q r)[62]? = some (.inr (.int, .inl (a 62))) := by rfl
set_option maxRecDepth 100000 in
theorem ksA62 (i : Nat → Int32) (a : Nat → List Int32) (q : Nat → List Int64) (r : Nat → Nat) (l : List Int32) : (ks i a q r).set 62 (.inr (.int, .inl l)) = ks i (ku a 62 l) q r := by rfl
theorem ksG63 (i : Nat → Int32) (a : Nat → List Int32) (q : Nat → List Int64) (r : Nat → Nat) : (ks i a q r)[63]? = some (.inr (.int, .inl (a 63))) := by rfl
set_option maxRecDepth 100000 in
theorem ksA63 (i : Nat → Int32) (a : Nat → List Int32) (q : Nat → List Int64) (r : Nat → Nat) (l : List Int32) : (ks i a q r).set 63 (.inr (.int, .inl l)) = ks i (ku a 63 l) q r := by rfl
theorem ksG65 (i : Nat → Int32) (a : Nat → List Int32) (q : Nat → List Int64) (r : Nat → Nat) : (ks i a q r)[65]? = some (.inr (.int, .inl (a 65))) := by rfl
set_option maxRecDepth 100000 in
theorem ksA65 (i : Nat → Int32) (a : Nat → List Int32) (q : Nat → List Int64) (r : Nat → Nat) (l : List Int32) : (ks i a q r).set 65 (.inr (.int, .inl l)) = ks i (ku a 65 l) q r := by rfl
theorem ksG66 (i : Nat → Int32) (a : Nat → List Int32) (q : Nat → List Int64) (r : Nat → Nat) : (ks i a q r)[66]? = some (.inr (.int, .inl (a 66))) := by rfl
set_option maxRecDepth 100000 in
theorem ksA66 (i : Nat → Int32) (a : Nat → List Int32) (q : Nat → List Int64) (r : Nat → Nat) (l : List Int32) : (ks i a q r).set 66 (.inr (.int, .inl l)) = ks i (ku a 66 l) q r := by rfl
theorem ksG67 (i : Nat → Int32) (a : Nat → List Int32) (q : Nat → List Int64) (r : Nat → Nat) : (ks i a q r)[67]? = some (.inr (.int, .inl (a 67))) := by rfl
set_option maxRecDepth 100000 in
theorem ksA67 (i : Nat → Int32) (a : Nat → List Int32) (q : Nat → List Int64) (r : Nat → Nat) (l : List Int32) : (ks i a q r).set 67 (.inr (.int, .inl l)) = ks i (ku a 67 l) q r := by rfl
theorem ksG68 (i : Nat → Int32) (a : Nat → List Int32) (q : Nat → List Int64) (r : Nat → Nat) : (ks i a q r)[68]? = some (.inr (.int, .inl (a 68))) := by rfl
set_option maxRecDepth 100000 in
theorem ksA68 (i : Nat → Int32) (a : Nat → List Int32) (q : Nat → List Int64) (r : Nat → Nat) (l : List Int32) : (ks i a q r).set 68 (.inr (.int, .inl l)) = ks i (ku a 68 l) q r := by rfl
theorem ksG69 (i : Nat → Int32) (a : Nat → List Int32) (q : Nat → List Int64) (r : Nat → Nat) : (ks i a q r)[69]? = some (.inr (.int, .inl (a 69))) := by rfl
set_option maxRecDepth 100000 in
theorem ksA69 (i : Nat → Int32) (a : Nat → List Int32) (q : Nat → List Int64) (r : Nat → Nat) (l : List Int32) : (ks i a q r).set 69 (.inr (.int, .inl l)) = ks i (ku a 69 l) q r := by rfl
theorem ksG70 (i : Nat → Int32) (a : Nat → List Int32) (q : Nat → List Int64) (r : Nat → Nat) : (ks i a q r)[70]? = some (.inr (.int, .inl (a 70))) := by rfl
set_option maxRecDepth 100000 in
theorem ksA70 (i : Nat → Int32) (a : Nat → List Int32) (q : Nat → List Int64) (r : Nat → Nat) (l : List Int32) : (ks i a q r).set 70 (.inr (.int, .inl l)) = ks i (ku a 70 l) q r := by rfl
theorem ksG71 (i : Nat → Int32) (a : Nat → List Int32) (q : Nat → List Int64) (r : Nat → Nat) : (ks i a q r)[71]? = some (.inr (.int, .inl (a 71))) := by rfl
set_option maxRecDepth 100000 in
theorem ksA71 (i : Nat → Int32) (a : Nat → List Int32) (q : Nat → List Int64) (r : Nat → Nat) (l : List Int32) : (ks i a q r).set 71 (.inr (.int, .inl l)) = ks i (ku a 71 l) q r := by rfl
theorem ksG72 (i : Nat → Int32) (a : Nat → List Int32) (q : Nat → List Int64) (r : Nat → Nat) : (ks i a q r)[72]? = some (.inr (.int, .inl (a 72))) := by rfl
set_option maxRecDepth 100000 in
theorem ksA72 (i : Nat → Int32) (a : Nat → List Int32) (q : Nat → List Int64) (r : Nat → Nat) (l : List Int32) : (ks i a q r).set 72 (.inr (.int, .inl l)) = ks i (ku a 72 l) q r := by rfl
theorem ksG73 (i : Nat → Int32) (a : Nat → List Int32) (q : Nat → List Int64) (r : Nat → Nat) : (ks i a q r)[73]? = some (.inr (.int, .inl (a 73))) := by rfl
set_option maxRecDepth 100000 in
theorem ksA73 (i : Nat → Int32) (a : Nat → List Int32) (q : Nat → List Int64) (r : Nat → Nat) (l : List Int32) : (ks i a q r).set 73 (.inr (.int, .inl l)) = ks i (ku a 73 l) q r := by rfl
theorem ksG74 (i : Nat → Int32) (a : Nat → List Int32) (q : Nat → List Int64) (r : Nat → Nat) : (ks i a q r)[74]? = some (.inr (.int, .inl (a 74))) := by rfl
set_option maxRecDepth 100000 in
theorem ksA74 (i : Nat → Int32) (a : Nat → List Int32) (q : Nat → List Int64) (r : Nat → Nat) (l : List Int32) : (ks i a q r).set 74 (.inr (.int, .inl l)) = ks i (ku a 74 l) q r := by rfl
theorem ksG75 (i : Nat → Int32) (a : Nat → List Int32) (q : Nat → List Int64) (r : Nat → Nat) : (ks i a q r)[75]? = some (.inr (.int, .inl (a 75))) := by rfl
set_option maxRecDepth 100000 in
theorem ksA75 (i : Nat → Int32) (a : Nat → List Int32) (q : Nat → List Int64) (r : Nat → Nat) (l : List Int32) : (ks i a q r).set 75 (.inr (.int, .inl l)) = ks i (ku a 75 l) q r := by rfl
theorem ksG76 (i : Nat → Int32) (a : Nat → List Int32) (q : Nat → List Int64) (r : Nat → Nat) : (ks i a q r)[76]? = some (.inr (.int, .inl (a 76))) := by rfl
set_option maxRecDepth 100000 in
theorem ksA76 (i : Nat → Int32) (a : Nat → List Int32) (q : Nat → List Int64) (r : Nat → Nat) (l : List Int32) : (ks i a q r).set 76 (.inr (.int, .inl l)) = ks i (ku a 76 l) q r := by rfl
theorem ksG77 (i : Nat → Int32) (a : Nat → List Int32) (q : Nat → List Int64) (r : Nat → Nat) : (ks i a q r)[77]? = some (.inr (.int, .inl (a 77))) := by rfl
set_option maxRecDepth 100000 in
theorem ksA77 (i : Nat → Int32) (a : Nat → List Int32) (q : Nat → List Int64) (r : Nat → Nat) (l : List Int32) : (ks i a q r).set 77 (.inr (.int, .inl l)) = ks i (ku a 77 l) q r := by rfl
theorem ksG78 (i : Nat → Int32) (a : Nat → List Int32) (q : Nat → List Int64) (r : Nat → Nat) : (ks i a q r)[78]? = some (.inr (.int, .inl (a 78))) := by rfl
set_option maxRecDepth 100000 in
theorem ksA78 (i : Nat → Int32) (a : Nat → List Int32) (q : Nat → List Int64) (r : Nat → Nat) (l : List Int32) : (ks i a q r).set 78 (.inr (.int, .inl l)) = ks i (ku a 78 l) q r := by rfl
theorem ksG79 (i : Nat → Int32) (a : Nat → List Int32) (q : Nat → List Int64) (r : Nat → Nat) : (ks i a q r)[79]? = some (.inr (.int, .inl (a 79))) := by rfl
set_option maxRecDepth 100000 in
theorem ksA79 (i : Nat → Int32) (a : Nat → List Int32) (q : Nat → List Int64) (r : Nat → Nat) (l : List Int32) : (ks i a q r).set 79 (.inr (.int, .inl l)) = ks i (ku a 79 l) q r := by rfl
theorem ksG81 (i : Nat → Int32) (a : Nat → List Int32) (q : Nat → List Int64) (r : Nat → Nat) : (ks i a q r)[81]? = some (.inr (.int, .inl (a 81))) := by rfl
set_option maxRecDepth 100000 in
theorem ksA81 (i : Nat → Int32) (a : Nat → List Int32) (q : Nat → List Int64) (r : Nat → Nat) (l : List Int32) : (ks i a q r).set 81 (.inr (.int, .inl l)) = ks i (ku a 81 l) q r := by rfl
theorem ksG82 (i : Nat → Int32) (a : Nat → List Int32) (q : Nat → List Int64) (r : Nat → Nat) : (ks i a q r)[82]? = some (.inr (.int, .inl (a 82))) := by rfl
set_option maxRecDepth 100000 in
theorem ksA82 (i : Nat → Int32) (a : Nat → List Int32) (q : Nat → List Int64) (r : Nat → Nat) (l : List Int32) : (ks i a q r).set 82 (.inr (.int, .inl l)) = ks i (ku a 82 l) q r := by rfl
theorem ksG83 (i : Nat → Int32) (a : Nat → List Int32) (q : Nat → List Int64) (r : Nat → Nat) : (ks i a q r)[83]? = some (.inr (.int, .inl (a 83))) := by rfl
set_option maxRecDepth 100000 in
theorem ksA83 (i : Nat → Int32) (a : Nat → List Int32) (q : Nat → List Int64) (r : Nat → Nat) (l : List Int32) : (ks i a q r).set 83 (.inr (.int, .inl l)) = ks i (ku a 83 l) q r := by rfl
theorem ksG84 (i : Nat → Int32) (a : Nat → List Int32) (q : Nat → List Int64) (r : Nat → Nat) : (ks i a q r)[84]? = some (.inr (.int, .inl (a 84))) := by rfl
set_option maxRecDepth 100000 in
theorem ksA84 (i : Nat → Int32) (a : Nat → List Int32) (q : Nat → List Int64) (r : Nat → Nat) (l : List Int32) : (ks i a q r).set 84 (.inr (.int, .inl l)) = ks i (ku a 84 l) q r := by rfl
theorem ksG85 (i : Nat → Int32) (a : Nat → List Int32) (q : Nat → List Int64) (r : Nat → Nat) : (ks i a q r)[85]? = some (.inr (.int, .inl (a 85))) := by rfl
set_option maxRecDepth 100000 in
theorem ksA85 (i : Nat → Int32) (a : Nat → List Int32) (q : Nat → List Int64) (r : Nat → Nat) (l : List Int32) : (ks i a q r).set 85 (.inr (.int, .inl l)) = ks i (ku a 85 l) q r := by rfl
theorem ksG86 (i : Nat → Int32) (a : Nat → List Int32) (q : Nat → List Int64) (r : Nat → Nat) : (ks i a q r)[86]? = some (.inr (.int, .inl (a 86))) := by rfl
set_option maxRecDepth 100000 in
theorem ksA86 (i : Nat → Int32) (a : Nat → List Int32) (q : Nat → List Int64) (r : Nat → Nat) (l : List Int32) : (ks i a q r).set 86 (.inr (.int, .inl l)) = ks i (ku a 86 l) q r := by rfl
theorem ksG87 (i : Nat → Int32) (a : Nat → List Int32) (q : Nat → List Int64) (r : Nat → Nat) : (ks i a q r)[87]? = some (.inr (.int, .inl (a 87))) := by rfl
set_option maxRecDepth 100000 in
theorem ksA87 (i : Nat → Int32) (a : Nat → List Int32) (q : Nat → List Int64) (r : Nat → Nat) (l : List Int32) : (ks i a q r).set 87 (.inr (.int, .inl l)) = ks i (ku a 87 l) q r := by rfl
theorem ksG88 (i : Nat → Int32) (a : Nat → List Int32) (q : Nat → List Int64) (r : Nat → Nat) : (ks i a q r)[88]? = some (.inr (.int, .inl (a 88))) := by rfl
set_option maxRecDepth 100000 in
theorem ksA88 (i : Nat → Int32) (a : Nat → List Int32) (q : Nat → List Int64) (r : Nat → Nat) (l : List Int32) : (ks i a q r).set 88 (.inr (.int, .inl l)) = ks i (ku a 88 l) q r := by rfl
theorem ksG90 (i : Nat → Int32) (a : Nat → List Int32) (q : Nat → List Int64) (r : Nat → Nat) : (ks i a q r)[90]? = some (.inr (.int, .inl (a 90))) := by rfl
set_option maxRecDepth 100000 in
theorem ksA90 (i : Nat → Int32) (a : Nat → List Int32) (q : Nat → List Int64) (r : Nat → Nat) (l : List Int32) : (ks i a q r).set 90 (.inr (.int, .inl l)) = ks i (ku a 90 l) q r := by rfl
theorem ksG91 (i : Nat → Int32) (a : Nat → List Int32) (q : Nat → List Int64) (r : Nat → Nat) : (ks i a q r)[91]? = some (.inr (.int, .inl (a 91))) := by rfl
set_option maxRecDepth 100000 in
theorem ksA91 (i : Nat → Int32) (a : Nat → List Int32) (q : Nat → List Int64) (r : Nat → Nat) (l : List Int32) : (ks i a q r).set 91 (.inr (.int, .inl l)) = ks i (ku a 91 l) q r := by rfl
theorem ksG92 (i : Nat → Int32) (a : Nat → List Int32) (q : Nat → List Int64) (r : Nat → Nat) : (ks i a q r)[92]? = some (.inr (.int, .inl (a 92))) := by rfl
set_option maxRecDepth 100000 in
theorem ksA92 (i : Nat → Int32) (a : Nat → List Int32) (q : Nat → List Int64) (r : Nat → Nat) (l : List Int32) : (ks i a q r).set 92 (.inr (.int, .inl l)) = ks i (ku a 92 l) q r := by rfl
theorem ksG93 (i : Nat → Int32) (a : Nat → List Int32) (q : Nat → List Int64) (r : Nat → Nat) : (ks i a q r)[93]? = some (.inr (.int, .inl (a 93))) := by rfl
set_option maxRecDepth 100000 in
theorem ksA93 (i : Nat → Int32) (a : Nat → List Int32) (q : Nat → List Int64) (r : Nat → Nat) (l : List Int32) : (ks i a q r).set 93 (.inr (.int, .inl l)) = ks i (ku a 93 l) q r := by rfl
theorem ksG95 (i : Nat → Int32) (a : Nat → List Int32) (q : Nat → List Int64) (r : Nat → Nat) : (ks i a q r)[95]? = some (.inr (.int, .inl (a 95))) := by rfl
set_option maxRecDepth 100000 in
theorem ksA95 (i : Nat → Int32) (a : Nat → List Int32) (q : Nat → List Int64) (r : Nat → Nat) (l : List Int32) : (ks i a q r).set 95 (.inr (.int, .inl l)) = ks i (ku a 95 l) q r := by rfl
theorem ksG96 (i : Nat → Int32) (a : Nat → List Int32) (q : Nat → List Int64) (r : Nat → Nat) : (ks i a q r)[96]? = some (.inr (.int, .inl (a 96))) := by rfl
set_option maxRecDepth 100000 in
theorem ksA96 (i : Nat → Int32) (a : Nat → List Int32) (q : Nat → List Int64) (r : Nat → Nat) (l : List Int32) : (ks i a q r).set 96 (.inr (.int, .inl l)) = ks i (ku a 96 l) q r := by rfl
theorem ksG99 (i : Nat → Int32) (a : Nat → List Int32) (q : Nat → List Int64) (r : Nat → Nat) : (ks i a q r)[99]? = some (.inr (.int, .inl (a 99))) := by rfl
set_option maxRecDepth 100000 in
theorem ksA99 (i : Nat → Int32) (a : Nat → List Int32) (q : Nat → List Int64) (r : Nat → Nat) (l : List Int32) : (ks i a q r).set 99 (.inr (.int, .inl l)) = ks i (ku a 99 l) q r := by rfl
theorem ksG101 (i : Nat → Int32) (a : Nat → List Int32) (q : Nat → List Int64) (r : Nat → Nat) : (ks i a q r)[101]? = some (.inr (.int, .inl (a 101))) := by rfl
set_option maxRecDepth 100000 in
theorem ksA101 (i : Nat → Int32) (a : Nat → List Int32) (q : Nat → List Int64) (r : Nat → Nat) (l : List Int32) : (ks i a q r).set 101 (.inr (.int, .inl l)) = ks i (ku a 101 l) q r := by rfl
theorem ksG102 (i : Nat → Int32) (a : Nat → List Int32) (q : Nat → List Int64) (r : Nat → Nat) : (ks i a q r)[102]? = some (.inr (.int, .inl (a 102))) := by rfl
set_option maxRecDepth 100000 in
theorem ksA102 (i : Nat → Int32) (a : Nat → List Int32) (q : Nat → List Int64) (r : Nat → Nat) (l : List Int32) : (ks i a q r).set 102 (.inr (.int, .inl l)) = ks i (ku a 102 l) q r := by rfl
theorem ksG103 (i : Nat → Int32) (a : Nat → List Int32) (q : Nat → List Int64) (r : Nat → Nat) : (ks i a q r)[103]? = some (.inr (.int, .inl (a 103))) := by rfl
set_option maxRecDepth 100000 in
theorem ksA103 (i : Nat → Int32) (a : Nat → List Int32) (q : Nat → List Int64) (r : Nat → Nat) (l : List Int32) : (ks i a q r).set 103 (.inr (.int, .inl l)) = ks i (ku a 103 l) q r := by rfl
theorem ksG117 (i : Nat → Int32) (a : Nat → List Int32) (q : Nat → List Int64) (r : Nat → Nat) : (ks i a q r)[117]? = some (.inr (.int, .inl (a 117))) := by rfl
set_option maxRecDepth 100000 in
theorem ksA117 (i : Nat → Int32) (a : Nat → List Int32) (q : Nat → List Int64) (r : Nat → Nat) (l : List Int32) : (ks i a q r).set 117 (.inr (.int, .inl l)) = ks i (ku a 117 l) q r := by rfl
theorem ksG118 (i : Nat → Int32) (a : Nat → List Int32) (q : Nat → List Int64) (r : Nat → Nat) : (ks i a q r)[118]? = some (.inr (.int, .inl (a 118))) := by rfl
set_option maxRecDepth 100000 in
theorem ksA118 (i : Nat → Int32) (a : Nat → List Int32) (q : Nat → List Int64) (r : Nat → Nat) (l : List Int32) : (ks i a q r).set 118 (.inr (.int, .inl l)) = ks i (ku a 118 l) q r := by rfl
theorem ksG119 (i : Nat → Int32) (a : Nat → List Int32) (q : Nat → List Int64) (r : Nat → Nat) : (ks i a q r)[119]? = some (.inr (.int, .inl (a 119))) := by rfl
set_option maxRecDepth 100000 in
theorem ksA119 (i : Nat → Int32) (a : Nat → List Int32) (q : Nat → List Int64) (r : Nat → Nat) (l : List Int32) : (ks i a q r).set 119 (.inr (.int, .inl l)) = ks i (ku a 119 l) q r := by rfl
theorem ksG120 (i : Nat → Int32) (a : Nat → List Int32) (q : Nat → List Int64) (r : Nat → Nat) : (ks i a q r)[120]? = some (.inr (.int, .inl (a 120))) := by rfl
set_option maxRecDepth 100000 in
theorem ksA120 (i : Nat → Int32) (a : Nat → List Int32) (q : Nat → List Int64) (r : Nat → Nat) (l : List Int32) : (ks i a q r).set 120 (.inr (.int, .inl l)) = ks i (ku a 120 l) q r := by rfl
theorem ksG121 (i : Nat → Int32) (a : Nat → List Int32) (q : Nat → List Int64) (r : Nat → Nat) : (ks i a q r)[121]? = some (.inr (.int, .inl (a 121))) := by rfl
set_option maxRecDepth 100000 in
theorem ksA121 (i : Nat → Int32) (a : Nat → List Int32) (q : Nat → List Int64) (r : Nat → Nat) (l : List Int32) : (ks i a q r).set 121 (.inr (.int, .inl l)) = ks i (ku a 121 l) q r := by rfl
theorem ksG122 (i : Nat → Int32) (a : Nat → List Int32) (q : Nat → List Int64) (r : Nat → Nat) : (ks i a q r)[122]? = some (.inr (.int, .inl (a 122))) := by rfl
set_option maxRecDepth 100000 in
theorem ksA122 (i : Nat → Int32) (a : Nat → List Int32) (q : Nat → List Int64) (r : Nat → Nat) (l : List Int32) : (ks i a q r).set 122 (.inr (.int, .inl l)) = ks i (ku a 122 l) q r := by rfl
theorem ksG123 (i : Nat → Int32) (a : Nat → List Int32) (q : Nat → List Int64) (r : Nat → Nat) : (ks i a q r)[123]? = some (.inr (.int, .inl (a 123))) := by rfl
set_option maxRecDepth 100000 in
theorem ksA123 (i : Nat → Int32) (a : Nat → List Int32) (q : Nat → List Int64) (r : Nat → Nat) (l : List Int32) : (ks i a q r).set 123 (.inr (.int, .inl l)) = ks i (ku a 123 l) q r := by rfl
theorem ksG124 (i : Nat → Int32) (a : Nat → List Int32) (q : Nat → List Int64) (r : Nat → Nat) : (ks i a q r)[124]? = some (.inr (.int, .inl (a 124))) := by rfl
set_option maxRecDepth 100000 in
theorem ksA124 (i : Nat → Int32) (a : Nat → List Int32) (q : Nat → List Int64) (r : Nat → Nat) (l : List Int32) : (ks i a q r).set 124 (.inr (.int, .inl l)) = ks i (ku a 124 l) q r := by rfl
theorem ksG125 (i : Nat → Int32) (a : Nat → List Int32) (q : Nat → List Int64) (r : Nat → Nat) : (ks i a q r)[125]? = some (.inr (.int, .inl (a 125))) := by rfl
set_option maxRecDepth 100000 in
theorem ksA125 (i : Nat → Int32) (a : Nat → List Int32) (q : Nat → List Int64) (r : Nat → Nat) (l : List Int32) : (ks i a q r).set 125 (.inr (.int, .inl l)) = ks i (ku a 125 l) q r := by rfl
theorem ksG126 (i : Nat → Int32) (a : Nat → List Int32) (q : Nat → List Int64) (r : Nat → Nat) : (ks i a q r)[126]? = some (.inr (.int, .inl (a 126))) := by rfl
set_option maxRecDepth 100000 in
theorem ksA126 (i : Nat → Int32) (a : Nat → List Int32) (q : Nat → List Int64) (r : Nat → Nat) (l : List Int32) : (ks i a q r).set 126 (.inr (.int, .inl l)) = ks i (ku a 126 l) q r := by rfl
theorem ksG127 (i : Nat → Int32) (a : Nat → List Int32) (q : Nat → List Int64) (r : Nat → Nat) : (ks i a q r)[127]? = some (.inr (.int, .inl (a 127))) := by rfl
set_option maxRecDepth 100000 in
theorem ksA127 (i : Nat → Int32) (a : Nat → List Int32) (q : Nat → List Int64) (r : Nat → Nat) (l : List Int32) : (ks i a q r).set 127 (.inr (.int, .inl l)) = ks i (ku a 127 l) q r := by rfl
theorem ksG128 (i : Nat → Int32) (a : Nat → List Int32) (q : Nat → List Int64) (r : Nat → Nat) : (ks i a q r)[128]? = some (.inr (.int, .inl (a 128))) := by rfl
set_option maxRecDepth 100000 in
theorem ksA128 (i : Nat → Int32) (a : Nat → List Int32) (q : Nat → List Int64) (r : Nat → Nat) (l : List Int32) : (ks i a q r).set 128 (.inr (.int, .inl l)) = ks i (ku a 128 l) q r := by rfl
theorem ksG129 (i : Nat → Int32) (a : Nat → List Int32) (q : Nat → List Int64) (r : Nat → Nat) : (ks i a q r)[129]? = some (.inr (.int, .inl (a 129))) := by rfl
set_option maxRecDepth 100000 in
theorem ksA129 (i : Nat → Int32) (a : Nat → List Int32) (q : Nat → List Int64) (r : Nat → Nat) (l : List Int32) : (ks i a q r).set 129 (.inr (.int, .inl l)) = ks i (ku a 129 l) q r := by rfl
theorem ksG130 (i : Nat → Int32) (a : Nat → List Int32) (q : Nat → List Int64) (r : Nat → Nat) : (ks i a q r)[130]? = some (.inr (.int, .inl (a 130))) := by rfl
set_option maxRecDepth 100000 in
theorem ksA130 (i : Nat → Int32) (a : Nat → List Int32) (q : Nat → List Int64) (r : Nat → Nat) (l : List Int32) : (ks i a q r).set 130 (.inr (.int, .inl l)) = ks i (ku a 130 l) q r := by rfl
theorem ksG131 (i : Nat → Int32) (a : Nat → List Int32) (q : Nat → List Int64) (r : Nat → Nat) : (ks i a q r)[131]? = some (.inr (.int, .inl (a 131))) := by rfl
set_option maxRecDepth 100000 in
theorem ksA131 (i : Nat → Int32) (a : Nat → List Int32) (q : Nat → List Int64) (r : Nat → Nat) (l : List Int32) : (ks i a q r).set 131 (.inr (.int, .inl l)) = ks i (ku a 131 l) q r := by rfl
theorem ksG132 (i : Nat → Int32) (a : Nat → List Int32) (q : Nat → List Int64) (r : Nat → Nat) : (ks i a q r)[132]? = some (.inr (.int, .inl (a 132))) := by rfl
set_option maxRecDepth 100000 in
theorem ksA132 (i : Nat → Int32) (a : Nat → List Int32) (q : Nat → List Int64) (r : Nat → Nat) (l : List Int32) : (ks i a q r).set 132 (.inr (.int, .inl l)) = ks i (ku a 132 l) q r := by rfl
theorem ksG133 (i : Nat → Int32) (a : Nat → List Int32) (q : Nat → List Int64) (r : Nat → Nat) : (ks i a q r)[133]? = some (.inr (.int, .inl (a 133))) := by rfl
set_option maxRecDepth 100000 in
theorem ksA133 (i : Nat → Int32) (a : Nat → List Int32) (q : Nat → List Int64) (r : Nat → Nat) (l : List Int32) : (ks i a q r).set 133 (.inr (.int, .inl l)) = ks i (ku a 133 l) q r := by rfl
theorem ksG134 (i : Nat → Int32) (a : Nat → List Int32) (q : Nat → List Int64) (r : Nat → Nat) : (ks i a q r)[134]? = some (.inr (.int, .inl (a 134))) := by rfl
set_option maxRecDepth 100000 in
theorem ksA134 (i : Nat → Int32) (a : Nat → List Int32) (q : Nat → List Int64) (r : Nat → Nat) (l : List Int32) : (ks i a q r).set 134 (.inr (.int, .inl l)) = ks i (ku a 134 l) q r := by rfl
theorem ksG135 (i : Nat → Int32) (a : Nat → List Int32) (q : Nat → List Int64) (r : Nat → Nat) : (ks i a q r)[135]? = some (.inr (.int, .inl (a 135))) := by rfl
set_option maxRecDepth 100000 in
theorem ksA135 (i : Nat → Int32) (a : Nat → List Int32) (q : Nat → List Int64) (r : Nat → Nat) (l : List Int32) : (ks i a q r).set 135 (.inr (.int, .inl l)) = ks i (ku a 135 l) q r := by rfl
theorem ksG136 (i : Nat → Int32) (a : Nat → List Int32) (q : Nat → List Int64) (r : Nat → Nat) : (ks i a q r)[136]? = some (.inr (.int, .inl (a 136))) := by rfl
set_option maxRecDepth 100000 in
theorem ksA136 (i : Nat → Int32) (a : Nat → List Int32) (q : Nat → List Int64) (r : Nat → Nat) (l : List Int32) : (ks i a q r).set 136 (.inr (.int, .inl l)) = ks i (ku a 136 l) q r := by rfl
theorem ksG137 (i : Nat → Int32) (a : Nat → List Int32) (q : Nat → List Int64) (r : Nat → Nat) : (ks i a q r)[137]? = some (.inr (.int, .inl (a 137))) := by rfl
set_option maxRecDepth 100000 in
theorem ksA137 (i : Nat → Int32) (a : Nat → List Int32) (q : Nat → List Int64) (r : Nat → Nat) (l : List Int32) : (ks i a q r).set 137 (.inr (.int, .inl l)) = ks i (ku a 137 l) q r := by rfl
theorem ksG139 (i : Nat → Int32) (a : Nat → List Int32) (q : Nat → List Int64) (r : Nat → Nat) : (ks i a q r)[139]? = some (.inr (.int, .inl (a 139))) := by rfl
set_option maxRecDepth 100000 in
theorem ksA139 (i : Nat → Int32) (a : Nat → List Int32) (q : Nat → List Int64) (r : Nat → Nat) (l : List Int32) : (ks i a q r).set 139 (.inr (.int, .inl l)) = ks i (ku a 139 l) q r := by rfl
theorem ksG140 (i : Nat → Int32) (a : Nat → List Int32) (q : Nat → List Int64) (r : Nat → Nat) : (ks i a q r)[140]? = some (.inr (.int, .inl (a 140))) := by rfl
set_option maxRecDepth 100000 in
theorem ksA140 (i : Nat → Int32) (a : Nat → List Int32) (q : Nat → List Int64) (r : Nat → Nat) (l : List Int32) : (ks i a q r).set 140 (.inr (.int, .inl l)) = ks i (ku a 140 l) q r := by rfl
theorem ksG141 (i : Nat → Int32) (a : Nat → List Int32) (q : Nat → List Int64) (r : Nat → Nat) : (ks i a q r)[141]? = some (.inr (.int, .inl (a 141))) := by rfl
set_option maxRecDepth 100000 in
theorem ksA141 (i : Nat → Int32) (a : Nat → List Int32) (q : Nat → List Int64) (r : Nat → Nat) (l : List Int32) : (ks i a q r).set 141 (.inr (.int, .inl l)) = ks i (ku a 141 l) q r := by rfl
theorem ksG142 (i : Nat → Int32) (a : Nat → List Int32) (q : Nat → List Int64) (r : Nat → Nat) : (ks i a q r)[142]? = some (.inr (.int, .inl (a 142))) := by rfl
set_option maxRecDepth 100000 in
theorem ksA142 (i : Nat → Int32) (a : Nat → List Int32) (q : Nat → List Int64) (r : Nat → Nat) (l : List Int32) : (ks i a q r).set 142 (.inr (.int, .inl l)) = ks i (ku a 142 l) q r := by rfl
theorem ksG143 (i : Nat → Int32) (a : Nat → List Int32) (q : Nat → List Int64) (r : Nat → Nat) : (ks i a q r)[143]? = some (.inr (.int, .inl (a 143))) := by rfl
set_option maxRecDepth 100000 in
theorem ksA143 (i : Nat → Int32) (a : Nat → List Int32) (q : Nat → List Int64) (r : Nat → Nat) (l : List Int32) : (ks i a q r).set 143 (.inr (.int, .inl l)) = ks i (ku a 143 l) q r := by rfl
theorem ksG144 (i : Nat → Int32) (a : Nat → List Int32) (q : Nat → List Int64) (r : Nat → Nat) : (ks i a q r)[144]? = some (.inr (.int, .inl (a 144))) := by rfl
set_option maxRecDepth 100000 in
theorem ksA144 (i : Nat → Int32) (a : Nat → List Int32) (q : Nat → List Int64) (r : Nat → Nat) (l : List Int32) : (ks i a q r).set 144 (.inr (.int, .inl l)) = ks i (ku a 144 l) q r := by rfl
theorem ksG145 (i : Nat → Int32) (a : Nat → List Int32) (q : Nat → List Int64) (r : Nat → Nat) : (ks i a q r)[145]? = some (.inr (.int, .inl (a 145))) := by rfl
set_option maxRecDepth 100000 in
theorem ksA145 (i : Nat → Int32) (a : Nat → List Int32) (q : Nat → List Int64) (r : Nat → Nat) (l : List Int32) : (ks i a q r).set 145 (.inr (.int, .inl l)) = ks i (ku a 145 l) q r := by rfl
theorem ksG146 (i : Nat → Int32) (a : Nat → List Int32) (q : Nat → List Int64) (r : Nat → Nat) : (ks i a q r)[146]? = some (.inr (.int, .inl (a 146))) := by rfl
set_option maxRecDepth 100000 in
theorem ksA146 (i : Nat → Int32) (a : Nat → List Int32) (q : Nat → List Int64) (r : Nat → Nat) (l : List Int32) : (ks i a q r).set 146 (.inr (.int, .inl l)) = ks i (ku a 146 l) q r := by rfl
theorem ksG147 (i : Nat → Int32) (a : Nat → List Int32) (q : Nat → List Int64) (r : Nat → Nat) : (ks i a q r)[147]? = some (.inr (.int, .inl (a 147))) := by rfl
set_option maxRecDepth 100000 in
theorem ksA147 (i : Nat → Int32) (a : Nat → List Int32) (q : Nat → List Int64) (r : Nat → Nat) (l : List Int32) : (ks i a q r).set 147 (.inr (.int, .inl l)) = ks i (ku a 147 l) q r := by rfl
theorem ksG148 (i : Nat → Int32) (a : Nat → List Int32) (q : Nat → List Int64) (r : Nat → Nat) : (ks i a q r)[148]? = some (.inr (.int, .inl (a 148))) := by rfl
set_option maxRecDepth 100000 in
theorem ksA148 (i : Nat → Int32) (a : Nat → List Int32) (q : Nat → List Int64) (r : Nat → Nat) (l : List Int32) : (ks i a q r).set 148 (.inr (.int, .inl l)) = ks i (ku a 148 l) q r := by rfl

