/-! THE WORLD of both sides, of a state: ints by 100 * place + field, longs likewise, arrays by their places, lines and draft -/
abbrev Sg : Type := (Nat → Int32) × (Nat → Int64) × (Nat → Nat → Int32) × (Nat → Nat → Int64) × Nat × Nat
abbrev uI (σ : Sg) (k : Nat) (v : Int32) : Sg := (va_up σ.1 k v, σ.2)
abbrev uJ (σ : Sg) (k : Nat) (v : Int64) : Sg := (σ.1, va_up σ.2.1 k v, σ.2.2)
abbrev uA (σ : Sg) (k : Nat) (f : Nat → Int32) : Sg := (σ.1, σ.2.1, va_up σ.2.2.1 k f, σ.2.2.2)
abbrev uB (σ : Sg) (k : Nat) (f : Nat → Int64) : Sg := (σ.1, σ.2.1, σ.2.2.1, va_up σ.2.2.2.1 k f, σ.2.2.2.2)
abbrev uN (σ : Sg) (a b : Nat) : Sg := (σ.1, σ.2.1, σ.2.2.1, σ.2.2.2.1, a, b)
def fs0 (σ : Sg) : List Value := [.ref 1, .ref 12, .ref 56, .ref 58, .ref 93, .ref 117, .ref 119, .ref σ.2.2.2.2.1, .ref σ.2.2.2.2.2, .int (σ.1 9)]
def fs1 (σ : Sg) : List Value := [.ref 2, .ref 3, .ref 4, .ref 5, .ref 6, .ref 7, .ref 8, .ref 9, .ref 10, .ref 11, .int (σ.1 110), .int (σ.1 111), .int (σ.1 112)]
def fs12 (σ : Sg) : List Value := [.ref 1, .ref 13, .ref 34, .ref 55, .int (σ.1 1204)]
def fs56 (σ : Sg) : List Value := [.ref 1, .ref 57, .int (σ.1 5602), .int (σ.1 5603), .int (σ.1 5604)]
def fs58 (σ : Sg) : List Value := [.ref 1, .ref 12, .ref 59, .ref 60, .ref 61, .ref 62, .ref 63, .ref 84, .ref 85, .int (σ.1 5809), .ref 86, .ref 89, .ref 92]
def fs86 (σ : Sg) : List Value := [.ref 87, .ref 88, .int (σ.1 8602)]
def fs89 (σ : Sg) : List Value := [.ref 90, .ref 91, .int (σ.1 8902)]
def fs93 (σ : Sg) : List Value := [.ref 94, .long (σ.2.1 9301), .ref 95, .ref 116]
def fs117 (σ : Sg) : List Value := [.ref 118, .int (σ.1 11701), .int (σ.1 11702), .int (σ.1 11703), .int (σ.1 11704)]
def fs119 (σ : Sg) : List Value := [.ref 120, .ref 121, .ref 122, .ref 123, .ref 124, .ref 125, .int (σ.1 11906)]
def fs126 (σ : Sg) : List Value := [.ref 127, .ref 128, .ref 129, .ref 130, .ref 131, .ref 132, .int (σ.1 12606)]
def fs133 (σ : Sg) : List Value := [.ref 134, .ref 135, .ref 136, .ref 137, .ref 138, .ref 139, .int (σ.1 13306)]
def fs140 (σ : Sg) : List Value := [.int (σ.1 14000), .ref 141, .ref 142, .ref 143, .ref 144, .ref 145, .ref 146, .ref 147, .ref 148, .ref 149, .ref 150, .int (σ.1 14011), .int (σ.1 14012), .int (σ.1 14013), .int (σ.1 14014), .ref 151, .ref 152, .ref 153, .ref 154, .ref 155, .ref 156, .ref 157, .ref 158, .ref 159, .ref 160, .int (σ.1 14025), .ref 161, .ref 162, .ref 163, .ref 164, .ref 165, .ref 166, .int (σ.1 14032), .ref 167, .long (σ.2.1 14034), .ref 168, .ref 169, .int (σ.1 14037), .ref 170, .int (σ.1 14039), .int (σ.1 14040), .long (σ.2.1 14041), .int (σ.1 14042), .int (σ.1 14043), .int (σ.1 14044), .int (σ.1 14045), .ref 171, .int (σ.1 14047), .ref 172]
def WW (σ : Sg) : VW := [.inr (8, fs0 σ), .inr (0, fs1 σ), .inl (0, 20, .inl (σ.2.2.1 2)), .inl (0, 20, .inl (σ.2.2.1 3)), .inl (0, 20, .inl (σ.2.2.1 4)), .inl (0, 20, .inl (σ.2.2.1 5)), .inl (1, 20, .inr (.inl (σ.2.2.2.1 6))), .inl (0, 20, .inl (σ.2.2.1 7)), .inl (0, 20, .inl (σ.2.2.1 8)), .inl (0, 20, .inl (σ.2.2.1 9)), .inl (1, 20, .inr (.inl (σ.2.2.2.1 10))), .inl (0, 20, .inl (σ.2.2.1 11)), .inr (3, fs12 σ), .inl (3, 20, .inr (.inr (.inr (.inr (fun i => if i < 20 then some (14 + i) else none))))), .inl (0, 20, .inl (σ.2.2.1 14)), .inl (0, 20, .inl (σ.2.2.1 15)), .inl (0, 20, .inl (σ.2.2.1 16)), .inl (0, 20, .inl (σ.2.2.1 17)), .inl (0, 20, .inl (σ.2.2.1 18)), .inl (0, 20, .inl (σ.2.2.1 19)), .inl (0, 20, .inl (σ.2.2.1 20)), .inl (0, 20, .inl (σ.2.2.1 21)), .inl (0, 20, .inl (σ.2.2.1 22)), .inl (0, 20, .inl (σ.2.2.1 23)), .inl (0, 20, .inl (σ.2.2.1 24)), .inl (0, 20, .inl (σ.2.2.1 25)), .inl (0, 20, .inl (σ.2.2.1 26)), .inl (0, 20, .inl (σ.2.2.1 27)), .inl (0, 20, .inl (σ.2.2.1 28)), .inl (0, 20, .inl (σ.2.2.1 29)), .inl (0, 20, .inl (σ.2.2.1 30)), .inl (0, 20, .inl (σ.2.2.1 31)), .inl (0, 20, .inl (σ.2.2.1 32)), .inl (0, 20, .inl (σ.2.2.1 33)), .inl (3, 20, .inr (.inr (.inr (.inr (fun i => if i < 20 then some (35 + i) else none))))), .inl (0, 20, .inl (σ.2.2.1 35)), .inl (0, 20, .inl (σ.2.2.1 36)), .inl (0, 20, .inl (σ.2.2.1 37)), .inl (0, 20, .inl (σ.2.2.1 38)), .inl (0, 20, .inl (σ.2.2.1 39)), .inl (0, 20, .inl (σ.2.2.1 40)), .inl (0, 20, .inl (σ.2.2.1 41)), .inl (0, 20, .inl (σ.2.2.1 42)), .inl (0, 20, .inl (σ.2.2.1 43)), .inl (0, 20, .inl (σ.2.2.1 44)), .inl (0, 20, .inl (σ.2.2.1 45)), .inl (0, 20, .inl (σ.2.2.1 46)), .inl (0, 20, .inl (σ.2.2.1 47)), .inl (0, 20, .inl (σ.2.2.1 48)), .inl (0, 20, .inl (σ.2.2.1 49)), .inl (0, 20, .inl (σ.2.2.1 50)), .inl (0, 20, .inl (σ.2.2.1 51)), .inl (0, 20, .inl (σ.2.2.1 52)), .inl (0, 20, .inl (σ.2.2.1 53)), .inl (0, 20, .inl (σ.2.2.1 54)), .inl (0, 9, .inl (σ.2.2.1 55)), .inr (5, fs56 σ), .inl (2, 100, .inl (σ.2.2.1 57)), .inr (1, fs58 σ), .inl (0, 8, .inl (σ.2.2.1 59)), .inl (0, 8, .inl (σ.2.2.1 60)), .inl (0, 5, .inl (σ.2.2.1 61)), .inl (0, 5, .inl (σ.2.2.1 62)), .inl (3, 20, .inr (.inr (.inr (.inr (fun i => if i < 20 then some (64 + i) else none))))), .inl (0, 8, .inl (σ.2.2.1 64)), .inl (0, 8, .inl (σ.2.2.1 65)), .inl (0, 8, .inl (σ.2.2.1 66)), .inl (0, 8, .inl (σ.2.2.1 67)), .inl (0, 8, .inl (σ.2.2.1 68)), .inl (0, 8, .inl (σ.2.2.1 69)), .inl (0, 8, .inl (σ.2.2.1 70)), .inl (0, 8, .inl (σ.2.2.1 71)), .inl (0, 8, .inl (σ.2.2.1 72)), .inl (0, 8, .inl (σ.2.2.1 73)), .inl (0, 8, .inl (σ.2.2.1 74)), .inl (0, 8, .inl (σ.2.2.1 75)), .inl (0, 8, .inl (σ.2.2.1 76)), .inl (0, 8, .inl (σ.2.2.1 77)), .inl (0, 8, .inl (σ.2.2.1 78)), .inl (0, 8, .inl (σ.2.2.1 79)), .inl (0, 8, .inl (σ.2.2.1 80)), .inl (0, 8, .inl (σ.2.2.1 81)), .inl (0, 8, .inl (σ.2.2.1 82)), .inl (0, 8, .inl (σ.2.2.1 83)), .inl (0, 12, .inl (σ.2.2.1 84)), .inl (0, 12, .inl (σ.2.2.1 85)), .inr (7, fs86 σ), .inl (0, 20, .inl (σ.2.2.1 87)), .inl (0, 20, .inl (σ.2.2.1 88)), .inr (7, fs89 σ), .inl (0, 20, .inl (σ.2.2.1 90)), .inl (0, 20, .inl (σ.2.2.1 91)), .inl (0, 20, .inl (σ.2.2.1 92)), .inr (2, fs93 σ), .inl (0, 8, .inl (σ.2.2.1 94)), .inl (3, 20, .inr (.inr (.inr (.inr (fun i => if i < 20 then some (96 + i) else none))))), .inl (0, 5, .inl (σ.2.2.1 96)), .inl (0, 5, .inl (σ.2.2.1 97)), .inl (0, 5, .inl (σ.2.2.1 98)), .inl (0, 5, .inl (σ.2.2.1 99)), .inl (0, 5, .inl (σ.2.2.1 100)), .inl (0, 5, .inl (σ.2.2.1 101)), .inl (0, 5, .inl (σ.2.2.1 102)), .inl (0, 5, .inl (σ.2.2.1 103)), .inl (0, 5, .inl (σ.2.2.1 104)), .inl (0, 5, .inl (σ.2.2.1 105)), .inl (0, 5, .inl (σ.2.2.1 106)), .inl (0, 5, .inl (σ.2.2.1 107)), .inl (0, 5, .inl (σ.2.2.1 108)), .inl (0, 5, .inl (σ.2.2.1 109)), .inl (0, 5, .inl (σ.2.2.1 110)), .inl (0, 5, .inl (σ.2.2.1 111)), .inl (0, 5, .inl (σ.2.2.1 112)), .inl (0, 5, .inl (σ.2.2.1 113)), .inl (0, 5, .inl (σ.2.2.1 114)), .inl (0, 5, .inl (σ.2.2.1 115)), .inl (0, 20, .inl (σ.2.2.1 116)), .inr (6, fs117 σ), .inl (0, 160, .inl (σ.2.2.1 118)), .inr (4, fs119 σ), .inl (0, 8, .inl (σ.2.2.1 120)), .inl (0, 8, .inl (σ.2.2.1 121)), .inl (0, 8, .inl (σ.2.2.1 122)), .inl (2, 8, .inl (σ.2.2.1 123)), .inl (0, 8, .inl (σ.2.2.1 124)), .inl (0, 8, .inl (σ.2.2.1 125)), .inr (4, fs126 σ), .inl (0, 8, .inl (σ.2.2.1 127)), .inl (0, 8, .inl (σ.2.2.1 128)), .inl (0, 8, .inl (σ.2.2.1 129)), .inl (2, 8, .inl (σ.2.2.1 130)), .inl (0, 8, .inl (σ.2.2.1 131)), .inl (0, 8, .inl (σ.2.2.1 132)), .inr (4, fs133 σ), .inl (0, 8, .inl (σ.2.2.1 134)), .inl (0, 8, .inl (σ.2.2.1 135)), .inl (0, 8, .inl (σ.2.2.1 136)), .inl (2, 8, .inl (σ.2.2.1 137)), .inl (0, 8, .inl (σ.2.2.1 138)), .inl (0, 8, .inl (σ.2.2.1 139)), .inr (9, fs140 σ), .inl (0, 20, .inl (σ.2.2.1 141)), .inl (0, 20, .inl (σ.2.2.1 142)), .inl (0, 20, .inl (σ.2.2.1 143)), .inl (0, 20, .inl (σ.2.2.1 144)), .inl (1, 20, .inr (.inl (σ.2.2.2.1 145))), .inl (0, 20, .inl (σ.2.2.1 146)), .inl (0, 20, .inl (σ.2.2.1 147)), .inl (0, 20, .inl (σ.2.2.1 148)), .inl (0, 20, .inl (σ.2.2.1 149)), .inl (0, 160, .inl (σ.2.2.1 150)), .inl (0, 400, .inl (σ.2.2.1 151)), .inl (0, 20, .inl (σ.2.2.1 152)), .inl (0, 20, .inl (σ.2.2.1 153)), .inl (0, 9, .inl (σ.2.2.1 154)), .inl (0, 9, .inl (σ.2.2.1 155)), .inl (0, 8, .inl (σ.2.2.1 156)), .inl (0, 8, .inl (σ.2.2.1 157)), .inl (0, 160, .inl (σ.2.2.1 158)), .inl (0, 5, .inl (σ.2.2.1 159)), .inl (0, 5, .inl (σ.2.2.1 160)), .inl (0, 12, .inl (σ.2.2.1 161)), .inl (0, 12, .inl (σ.2.2.1 162)), .inl (0, 20, .inl (σ.2.2.1 163)), .inl (0, 20, .inl (σ.2.2.1 164)), .inl (0, 20, .inl (σ.2.2.1 165)), .inl (0, 20, .inl (σ.2.2.1 166)), .inl (0, 8, .inl (σ.2.2.1 167)), .inl (0, 20, .inl (σ.2.2.1 168)), .inl (0, 100, .inl (σ.2.2.1 169)), .inl (0, 160, .inl (σ.2.2.1 170)), .inl (0, 48, .inl (σ.2.2.1 171)), .inl (0, 48, .inl (σ.2.2.1 172))]
set_option maxRecDepth 100000 in
theorem c_0 (σ : Sg) : (WW σ)[0]? = some (.inr (8, fs0 σ)) := rfl
set_option maxRecDepth 100000 in
theorem c_1 (σ : Sg) : (WW σ)[1]? = some (.inr (0, fs1 σ)) := rfl
set_option maxRecDepth 100000 in
theorem c_2 (σ : Sg) : (WW σ)[2]? = some (.inl (0, 20, .inl (σ.2.2.1 2))) := rfl
set_option maxRecDepth 100000 in
theorem c_3 (σ : Sg) : (WW σ)[3]? = some (.inl (0, 20, .inl (σ.2.2.1 3))) := rfl
set_option maxRecDepth 100000 in
theorem c_4 (σ : Sg) : (WW σ)[4]? = some (.inl (0, 20, .inl (σ.2.2.1 4))) := rfl
set_option maxRecDepth 100000 in
theorem c_5 (σ : Sg) : (WW σ)[5]? = some (.inl (0, 20, .inl (σ.2.2.1 5))) := rfl
set_option maxRecDepth 100000 in
theorem c_6 (σ : Sg) : (WW σ)[6]? = some (.inl (1, 20, .inr (.inl (σ.2.2.2.1 6)))) := rfl
set_option maxRecDepth 100000 in
theorem c_7 (σ : Sg) : (WW σ)[7]? = some (.inl (0, 20, .inl (σ.2.2.1 7))) := rfl
set_option maxRecDepth 100000 in
theorem c_8 (σ : Sg) : (WW σ)[8]? = some (.inl (0, 20, .inl (σ.2.2.1 8))) := rfl
set_option maxRecDepth 100000 in
theorem c_9 (σ : Sg) : (WW σ)[9]? = some (.inl (0, 20, .inl (σ.2.2.1 9))) := rfl
set_option maxRecDepth 100000 in
theorem c_10 (σ : Sg) : (WW σ)[10]? = some (.inl (1, 20, .inr (.inl (σ.2.2.2.1 10)))) := rfl
set_option maxRecDepth 100000 in
theorem c_11 (σ : Sg) : (WW σ)[11]? = some (.inl (0, 20, .inl (σ.2.2.1 11))) := rfl
set_option maxRecDepth 100000 in
theorem c_12 (σ : Sg) : (WW σ)[12]? = some (.inr (3, fs12 σ)) := rfl
set_option maxRecDepth 100000 in
theorem c_13 (σ : Sg) : (WW σ)[13]? = some (.inl (3, 20, .inr (.inr (.inr (.inr (fun i => if i < 20 then some (14 + i) else none)))))) := rfl
set_option maxRecDepth 100000 in
theorem c_14 (σ : Sg) : (WW σ)[14]? = some (.inl (0, 20, .inl (σ.2.2.1 14))) := rfl
set_option maxRecDepth 100000 in
theorem c_15 (σ : Sg) : (WW σ)[15]? = some (.inl (0, 20, .inl (σ.2.2.1 15))) := rfl
set_option maxRecDepth 100000 in
theorem c_16 (σ : Sg) : (WW σ)[16]? = some (.inl (0, 20, .inl (σ.2.2.1 16))) := rfl
set_option maxRecDepth 100000 in
theorem c_17 (σ : Sg) : (WW σ)[17]? = some (.inl (0, 20, .inl (σ.2.2.1 17))) := rfl
set_option maxRecDepth 100000 in
theorem c_18 (σ : Sg) : (WW σ)[18]? = some (.inl (0, 20, .inl (σ.2.2.1 18))) := rfl
set_option maxRecDepth 100000 in
theorem c_19 (σ : Sg) : (WW σ)[19]? = some (.inl (0, 20, .inl (σ.2.2.1 19))) := rfl
set_option maxRecDepth 100000 in
theorem c_20 (σ : Sg) : (WW σ)[20]? = some (.inl (0, 20, .inl (σ.2.2.1 20))) := rfl
set_option maxRecDepth 100000 in
theorem c_21 (σ : Sg) : (WW σ)[21]? = some (.inl (0, 20, .inl (σ.2.2.1 21))) := rfl
set_option maxRecDepth 100000 in
theorem c_22 (σ : Sg) : (WW σ)[22]? = some (.inl (0, 20, .inl (σ.2.2.1 22))) := rfl
set_option maxRecDepth 100000 in
theorem c_23 (σ : Sg) : (WW σ)[23]? = some (.inl (0, 20, .inl (σ.2.2.1 23))) := rfl
set_option maxRecDepth 100000 in
theorem c_24 (σ : Sg) : (WW σ)[24]? = some (.inl (0, 20, .inl (σ.2.2.1 24))) := rfl
set_option maxRecDepth 100000 in
theorem c_25 (σ : Sg) : (WW σ)[25]? = some (.inl (0, 20, .inl (σ.2.2.1 25))) := rfl
set_option maxRecDepth 100000 in
theorem c_26 (σ : Sg) : (WW σ)[26]? = some (.inl (0, 20, .inl (σ.2.2.1 26))) := rfl
set_option maxRecDepth 100000 in
theorem c_27 (σ : Sg) : (WW σ)[27]? = some (.inl (0, 20, .inl (σ.2.2.1 27))) := rfl
set_option maxRecDepth 100000 in
theorem c_28 (σ : Sg) : (WW σ)[28]? = some (.inl (0, 20, .inl (σ.2.2.1 28))) := rfl
set_option maxRecDepth 100000 in
theorem c_29 (σ : Sg) : (WW σ)[29]? = some (.inl (0, 20, .inl (σ.2.2.1 29))) := rfl
set_option maxRecDepth 100000 in
theorem c_30 (σ : Sg) : (WW σ)[30]? = some (.inl (0, 20, .inl (σ.2.2.1 30))) := rfl
set_option maxRecDepth 100000 in
theorem c_31 (σ : Sg) : (WW σ)[31]? = some (.inl (0, 20, .inl (σ.2.2.1 31))) := rfl
set_option maxRecDepth 100000 in
theorem c_32 (σ : Sg) : (WW σ)[32]? = some (.inl (0, 20, .inl (σ.2.2.1 32))) := rfl
set_option maxRecDepth 100000 in
theorem c_33 (σ : Sg) : (WW σ)[33]? = some (.inl (0, 20, .inl (σ.2.2.1 33))) := rfl
set_option maxRecDepth 100000 in
theorem c_34 (σ : Sg) : (WW σ)[34]? = some (.inl (3, 20, .inr (.inr (.inr (.inr (fun i => if i < 20 then some (35 + i) else none)))))) := rfl
set_option maxRecDepth 100000 in
theorem c_35 (σ : Sg) : (WW σ)[35]? = some (.inl (0, 20, .inl (σ.2.2.1 35))) := rfl
set_option maxRecDepth 100000 in
theorem c_36 (σ : Sg) : (WW σ)[36]? = some (.inl (0, 20, .inl (σ.2.2.1 36))) := rfl
set_option maxRecDepth 100000 in
theorem c_37 (σ : Sg) : (WW σ)[37]? = some (.inl (0, 20, .inl (σ.2.2.1 37))) := rfl
set_option maxRecDepth 100000 in
theorem c_38 (σ : Sg) : (WW σ)[38]? = some (.inl (0, 20, .inl (σ.2.2.1 38))) := rfl
set_option maxRecDepth 100000 in
theorem c_39 (σ : Sg) : (WW σ)[39]? = some (.inl (0, 20, .inl (σ.2.2.1 39))) := rfl
set_option maxRecDepth 100000 in
theorem c_40 (σ : Sg) : (WW σ)[40]? = some (.inl (0, 20, .inl (σ.2.2.1 40))) := rfl
set_option maxRecDepth 100000 in
theorem c_41 (σ : Sg) : (WW σ)[41]? = some (.inl (0, 20, .inl (σ.2.2.1 41))) := rfl
set_option maxRecDepth 100000 in
theorem c_42 (σ : Sg) : (WW σ)[42]? = some (.inl (0, 20, .inl (σ.2.2.1 42))) := rfl
set_option maxRecDepth 100000 in
theorem c_43 (σ : Sg) : (WW σ)[43]? = some (.inl (0, 20, .inl (σ.2.2.1 43))) := rfl
set_option maxRecDepth 100000 in
theorem c_44 (σ : Sg) : (WW σ)[44]? = some (.inl (0, 20, .inl (σ.2.2.1 44))) := rfl
set_option maxRecDepth 100000 in
theorem c_45 (σ : Sg) : (WW σ)[45]? = some (.inl (0, 20, .inl (σ.2.2.1 45))) := rfl
set_option maxRecDepth 100000 in
theorem c_46 (σ : Sg) : (WW σ)[46]? = some (.inl (0, 20, .inl (σ.2.2.1 46))) := rfl
set_option maxRecDepth 100000 in
theorem c_47 (σ : Sg) : (WW σ)[47]? = some (.inl (0, 20, .inl (σ.2.2.1 47))) := rfl
set_option maxRecDepth 100000 in
theorem c_48 (σ : Sg) : (WW σ)[48]? = some (.inl (0, 20, .inl (σ.2.2.1 48))) := rfl
set_option maxRecDepth 100000 in
theorem c_49 (σ : Sg) : (WW σ)[49]? = some (.inl (0, 20, .inl (σ.2.2.1 49))) := rfl
set_option maxRecDepth 100000 in
theorem c_50 (σ : Sg) : (WW σ)[50]? = some (.inl (0, 20, .inl (σ.2.2.1 50))) := rfl
set_option maxRecDepth 100000 in
theorem c_51 (σ : Sg) : (WW σ)[51]? = some (.inl (0, 20, .inl (σ.2.2.1 51))) := rfl
set_option maxRecDepth 100000 in
theorem c_52 (σ : Sg) : (WW σ)[52]? = some (.inl (0, 20, .inl (σ.2.2.1 52))) := rfl
set_option maxRecDepth 100000 in
theorem c_53 (σ : Sg) : (WW σ)[53]? = some (.inl (0, 20, .inl (σ.2.2.1 53))) := rfl
set_option maxRecDepth 100000 in
theorem c_54 (σ : Sg) : (WW σ)[54]? = some (.inl (0, 20, .inl (σ.2.2.1 54))) := rfl
set_option maxRecDepth 100000 in
theorem c_55 (σ : Sg) : (WW σ)[55]? = some (.inl (0, 9, .inl (σ.2.2.1 55))) := rfl
set_option maxRecDepth 100000 in
theorem c_56 (σ : Sg) : (WW σ)[56]? = some (.inr (5, fs56 σ)) := rfl
set_option maxRecDepth 100000 in
theorem c_57 (σ : Sg) : (WW σ)[57]? = some (.inl (2, 100, .inl (σ.2.2.1 57))) := rfl
set_option maxRecDepth 100000 in
theorem c_58 (σ : Sg) : (WW σ)[58]? = some (.inr (1, fs58 σ)) := rfl
set_option maxRecDepth 100000 in
theorem c_59 (σ : Sg) : (WW σ)[59]? = some (.inl (0, 8, .inl (σ.2.2.1 59))) := rfl
set_option maxRecDepth 100000 in
theorem c_60 (σ : Sg) : (WW σ)[60]? = some (.inl (0, 8, .inl (σ.2.2.1 60))) := rfl
set_option maxRecDepth 100000 in
theorem c_61 (σ : Sg) : (WW σ)[61]? = some (.inl (0, 5, .inl (σ.2.2.1 61))) := rfl
set_option maxRecDepth 100000 in
theorem c_62 (σ : Sg) : (WW σ)[62]? = some (.inl (0, 5, .inl (σ.2.2.1 62))) := rfl
set_option maxRecDepth 100000 in
theorem c_63 (σ : Sg) : (WW σ)[63]? = some (.inl (3, 20, .inr (.inr (.inr (.inr (fun i => if i < 20 then some (64 + i) else none)))))) := rfl
set_option maxRecDepth 100000 in
theorem c_64 (σ : Sg) : (WW σ)[64]? = some (.inl (0, 8, .inl (σ.2.2.1 64))) := rfl
set_option maxRecDepth 100000 in
theorem c_65 (σ : Sg) : (WW σ)[65]? = some (.inl (0, 8, .inl (σ.2.2.1 65))) := rfl
set_option maxRecDepth 100000 in
theorem c_66 (σ : Sg) : (WW σ)[66]? = some (.inl (0, 8, .inl (σ.2.2.1 66))) := rfl
set_option maxRecDepth 100000 in
theorem c_67 (σ : Sg) : (WW σ)[67]? = some (.inl (0, 8, .inl (σ.2.2.1 67))) := rfl
set_option maxRecDepth 100000 in
theorem c_68 (σ : Sg) : (WW σ)[68]? = some (.inl (0, 8, .inl (σ.2.2.1 68))) := rfl
set_option maxRecDepth 100000 in
theorem c_69 (σ : Sg) : (WW σ)[69]? = some (.inl (0, 8, .inl (σ.2.2.1 69))) := rfl
set_option maxRecDepth 100000 in
theorem c_70 (σ : Sg) : (WW σ)[70]? = some (.inl (0, 8, .inl (σ.2.2.1 70))) := rfl
set_option maxRecDepth 100000 in
theorem c_71 (σ : Sg) : (WW σ)[71]? = some (.inl (0, 8, .inl (σ.2.2.1 71))) := rfl
set_option maxRecDepth 100000 in
theorem c_72 (σ : Sg) : (WW σ)[72]? = some (.inl (0, 8, .inl (σ.2.2.1 72))) := rfl
set_option maxRecDepth 100000 in
theorem c_73 (σ : Sg) : (WW σ)[73]? = some (.inl (0, 8, .inl (σ.2.2.1 73))) := rfl
set_option maxRecDepth 100000 in
theorem c_74 (σ : Sg) : (WW σ)[74]? = some (.inl (0, 8, .inl (σ.2.2.1 74))) := rfl
set_option maxRecDepth 100000 in
theorem c_75 (σ : Sg) : (WW σ)[75]? = some (.inl (0, 8, .inl (σ.2.2.1 75))) := rfl
set_option maxRecDepth 100000 in
theorem c_76 (σ : Sg) : (WW σ)[76]? = some (.inl (0, 8, .inl (σ.2.2.1 76))) := rfl
set_option maxRecDepth 100000 in
theorem c_77 (σ : Sg) : (WW σ)[77]? = some (.inl (0, 8, .inl (σ.2.2.1 77))) := rfl
set_option maxRecDepth 100000 in
theorem c_78 (σ : Sg) : (WW σ)[78]? = some (.inl (0, 8, .inl (σ.2.2.1 78))) := rfl
set_option maxRecDepth 100000 in
theorem c_79 (σ : Sg) : (WW σ)[79]? = some (.inl (0, 8, .inl (σ.2.2.1 79))) := rfl
set_option maxRecDepth 100000 in
theorem c_80 (σ : Sg) : (WW σ)[80]? = some (.inl (0, 8, .inl (σ.2.2.1 80))) := rfl
set_option maxRecDepth 100000 in
theorem c_81 (σ : Sg) : (WW σ)[81]? = some (.inl (0, 8, .inl (σ.2.2.1 81))) := rfl
set_option maxRecDepth 100000 in
theorem c_82 (σ : Sg) : (WW σ)[82]? = some (.inl (0, 8, .inl (σ.2.2.1 82))) := rfl
set_option maxRecDepth 100000 in
theorem c_83 (σ : Sg) : (WW σ)[83]? = some (.inl (0, 8, .inl (σ.2.2.1 83))) := rfl
set_option maxRecDepth 100000 in
theorem c_84 (σ : Sg) : (WW σ)[84]? = some (.inl (0, 12, .inl (σ.2.2.1 84))) := rfl
set_option maxRecDepth 100000 in
theorem c_85 (σ : Sg) : (WW σ)[85]? = some (.inl (0, 12, .inl (σ.2.2.1 85))) := rfl
set_option maxRecDepth 100000 in
theorem c_86 (σ : Sg) : (WW σ)[86]? = some (.inr (7, fs86 σ)) := rfl
set_option maxRecDepth 100000 in
theorem c_87 (σ : Sg) : (WW σ)[87]? = some (.inl (0, 20, .inl (σ.2.2.1 87))) := rfl
set_option maxRecDepth 100000 in
theorem c_88 (σ : Sg) : (WW σ)[88]? = some (.inl (0, 20, .inl (σ.2.2.1 88))) := rfl
set_option maxRecDepth 100000 in
theorem c_89 (σ : Sg) : (WW σ)[89]? = some (.inr (7, fs89 σ)) := rfl
set_option maxRecDepth 100000 in
theorem c_90 (σ : Sg) : (WW σ)[90]? = some (.inl (0, 20, .inl (σ.2.2.1 90))) := rfl
set_option maxRecDepth 100000 in
theorem c_91 (σ : Sg) : (WW σ)[91]? = some (.inl (0, 20, .inl (σ.2.2.1 91))) := rfl
set_option maxRecDepth 100000 in
theorem c_92 (σ : Sg) : (WW σ)[92]? = some (.inl (0, 20, .inl (σ.2.2.1 92))) := rfl
set_option maxRecDepth 100000 in
theorem c_93 (σ : Sg) : (WW σ)[93]? = some (.inr (2, fs93 σ)) := rfl
set_option maxRecDepth 100000 in
theorem c_94 (σ : Sg) : (WW σ)[94]? = some (.inl (0, 8, .inl (σ.2.2.1 94))) := rfl
set_option maxRecDepth 100000 in
theorem c_95 (σ : Sg) : (WW σ)[95]? = some (.inl (3, 20, .inr (.inr (.inr (.inr (fun i => if i < 20 then some (96 + i) else none)))))) := rfl
set_option maxRecDepth 100000 in
theorem c_96 (σ : Sg) : (WW σ)[96]? = some (.inl (0, 5, .inl (σ.2.2.1 96))) := rfl
set_option maxRecDepth 100000 in
theorem c_97 (σ : Sg) : (WW σ)[97]? = some (.inl (0, 5, .inl (σ.2.2.1 97))) := rfl
set_option maxRecDepth 100000 in
theorem c_98 (σ : Sg) : (WW σ)[98]? = some (.inl (0, 5, .inl (σ.2.2.1 98))) := rfl
set_option maxRecDepth 100000 in
theorem c_99 (σ : Sg) : (WW σ)[99]? = some (.inl (0, 5, .inl (σ.2.2.1 99))) := rfl
set_option maxRecDepth 100000 in
theorem c_100 (σ : Sg) : (WW σ)[100]? = some (.inl (0, 5, .inl (σ.2.2.1 100))) := rfl
set_option maxRecDepth 100000 in
theorem c_101 (σ : Sg) : (WW σ)[101]? = some (.inl (0, 5, .inl (σ.2.2.1 101))) := rfl
set_option maxRecDepth 100000 in
theorem c_102 (σ : Sg) : (WW σ)[102]? = some (.inl (0, 5, .inl (σ.2.2.1 102))) := rfl
set_option maxRecDepth 100000 in
theorem c_103 (σ : Sg) : (WW σ)[103]? = some (.inl (0, 5, .inl (σ.2.2.1 103))) := rfl
set_option maxRecDepth 100000 in
theorem c_104 (σ : Sg) : (WW σ)[104]? = some (.inl (0, 5, .inl (σ.2.2.1 104))) := rfl
set_option maxRecDepth 100000 in
theorem c_105 (σ : Sg) : (WW σ)[105]? = some (.inl (0, 5, .inl (σ.2.2.1 105))) := rfl
set_option maxRecDepth 100000 in
theorem c_106 (σ : Sg) : (WW σ)[106]? = some (.inl (0, 5, .inl (σ.2.2.1 106))) := rfl
set_option maxRecDepth 100000 in
theorem c_107 (σ : Sg) : (WW σ)[107]? = some (.inl (0, 5, .inl (σ.2.2.1 107))) := rfl
set_option maxRecDepth 100000 in
theorem c_108 (σ : Sg) : (WW σ)[108]? = some (.inl (0, 5, .inl (σ.2.2.1 108))) := rfl
set_option maxRecDepth 100000 in
theorem c_109 (σ : Sg) : (WW σ)[109]? = some (.inl (0, 5, .inl (σ.2.2.1 109))) := rfl
set_option maxRecDepth 100000 in
theorem c_110 (σ : Sg) : (WW σ)[110]? = some (.inl (0, 5, .inl (σ.2.2.1 110))) := rfl
set_option maxRecDepth 100000 in
theorem c_111 (σ : Sg) : (WW σ)[111]? = some (.inl (0, 5, .inl (σ.2.2.1 111))) := rfl
set_option maxRecDepth 100000 in
theorem c_112 (σ : Sg) : (WW σ)[112]? = some (.inl (0, 5, .inl (σ.2.2.1 112))) := rfl
set_option maxRecDepth 100000 in
theorem c_113 (σ : Sg) : (WW σ)[113]? = some (.inl (0, 5, .inl (σ.2.2.1 113))) := rfl
set_option maxRecDepth 100000 in
theorem c_114 (σ : Sg) : (WW σ)[114]? = some (.inl (0, 5, .inl (σ.2.2.1 114))) := rfl
set_option maxRecDepth 100000 in
theorem c_115 (σ : Sg) : (WW σ)[115]? = some (.inl (0, 5, .inl (σ.2.2.1 115))) := rfl
set_option maxRecDepth 100000 in
theorem c_116 (σ : Sg) : (WW σ)[116]? = some (.inl (0, 20, .inl (σ.2.2.1 116))) := rfl
set_option maxRecDepth 100000 in
theorem c_117 (σ : Sg) : (WW σ)[117]? = some (.inr (6, fs117 σ)) := rfl
set_option maxRecDepth 100000 in
theorem c_118 (σ : Sg) : (WW σ)[118]? = some (.inl (0, 160, .inl (σ.2.2.1 118))) := rfl
set_option maxRecDepth 100000 in
theorem c_119 (σ : Sg) : (WW σ)[119]? = some (.inr (4, fs119 σ)) := rfl
set_option maxRecDepth 100000 in
theorem c_120 (σ : Sg) : (WW σ)[120]? = some (.inl (0, 8, .inl (σ.2.2.1 120))) := rfl
set_option maxRecDepth 100000 in
theorem c_121 (σ : Sg) : (WW σ)[121]? = some (.inl (0, 8, .inl (σ.2.2.1 121))) := rfl
set_option maxRecDepth 100000 in
theorem c_122 (σ : Sg) : (WW σ)[122]? = some (.inl (0, 8, .inl (σ.2.2.1 122))) := rfl
set_option maxRecDepth 100000 in
theorem c_123 (σ : Sg) : (WW σ)[123]? = some (.inl (2, 8, .inl (σ.2.2.1 123))) := rfl
set_option maxRecDepth 100000 in
theorem c_124 (σ : Sg) : (WW σ)[124]? = some (.inl (0, 8, .inl (σ.2.2.1 124))) := rfl
set_option maxRecDepth 100000 in
theorem c_125 (σ : Sg) : (WW σ)[125]? = some (.inl (0, 8, .inl (σ.2.2.1 125))) := rfl
set_option maxRecDepth 100000 in
theorem c_126 (σ : Sg) : (WW σ)[126]? = some (.inr (4, fs126 σ)) := rfl
set_option maxRecDepth 100000 in
theorem c_127 (σ : Sg) : (WW σ)[127]? = some (.inl (0, 8, .inl (σ.2.2.1 127))) := rfl
set_option maxRecDepth 100000 in
theorem c_128 (σ : Sg) : (WW σ)[128]? = some (.inl (0, 8, .inl (σ.2.2.1 128))) := rfl
set_option maxRecDepth 100000 in
theorem c_129 (σ : Sg) : (WW σ)[129]? = some (.inl (0, 8, .inl (σ.2.2.1 129))) := rfl
set_option maxRecDepth 100000 in
theorem c_130 (σ : Sg) : (WW σ)[130]? = some (.inl (2, 8, .inl (σ.2.2.1 130))) := rfl
set_option maxRecDepth 100000 in
theorem c_131 (σ : Sg) : (WW σ)[131]? = some (.inl (0, 8, .inl (σ.2.2.1 131))) := rfl
set_option maxRecDepth 100000 in
theorem c_132 (σ : Sg) : (WW σ)[132]? = some (.inl (0, 8, .inl (σ.2.2.1 132))) := rfl
set_option maxRecDepth 100000 in
theorem c_133 (σ : Sg) : (WW σ)[133]? = some (.inr (4, fs133 σ)) := rfl
set_option maxRecDepth 100000 in
theorem c_134 (σ : Sg) : (WW σ)[134]? = some (.inl (0, 8, .inl (σ.2.2.1 134))) := rfl
set_option maxRecDepth 100000 in
theorem c_135 (σ : Sg) : (WW σ)[135]? = some (.inl (0, 8, .inl (σ.2.2.1 135))) := rfl
set_option maxRecDepth 100000 in
theorem c_136 (σ : Sg) : (WW σ)[136]? = some (.inl (0, 8, .inl (σ.2.2.1 136))) := rfl
set_option maxRecDepth 100000 in
theorem c_137 (σ : Sg) : (WW σ)[137]? = some (.inl (2, 8, .inl (σ.2.2.1 137))) := rfl
set_option maxRecDepth 100000 in
theorem c_138 (σ : Sg) : (WW σ)[138]? = some (.inl (0, 8, .inl (σ.2.2.1 138))) := rfl
set_option maxRecDepth 100000 in
theorem c_139 (σ : Sg) : (WW σ)[139]? = some (.inl (0, 8, .inl (σ.2.2.1 139))) := rfl
set_option maxRecDepth 100000 in
theorem c_140 (σ : Sg) : (WW σ)[140]? = some (.inr (9, fs140 σ)) := rfl
set_option maxRecDepth 100000 in
theorem c_141 (σ : Sg) : (WW σ)[141]? = some (.inl (0, 20, .inl (σ.2.2.1 141))) := rfl
set_option maxRecDepth 100000 in
theorem c_142 (σ : Sg) : (WW σ)[142]? = some (.inl (0, 20, .inl (σ.2.2.1 142))) := rfl
set_option maxRecDepth 100000 in
theorem c_143 (σ : Sg) : (WW σ)[143]? = some (.inl (0, 20, .inl (σ.2.2.1 143))) := rfl
set_option maxRecDepth 100000 in
theorem c_144 (σ : Sg) : (WW σ)[144]? = some (.inl (0, 20, .inl (σ.2.2.1 144))) := rfl
set_option maxRecDepth 100000 in
theorem c_145 (σ : Sg) : (WW σ)[145]? = some (.inl (1, 20, .inr (.inl (σ.2.2.2.1 145)))) := rfl
set_option maxRecDepth 100000 in
theorem c_146 (σ : Sg) : (WW σ)[146]? = some (.inl (0, 20, .inl (σ.2.2.1 146))) := rfl
set_option maxRecDepth 100000 in
theorem c_147 (σ : Sg) : (WW σ)[147]? = some (.inl (0, 20, .inl (σ.2.2.1 147))) := rfl
set_option maxRecDepth 100000 in
theorem c_148 (σ : Sg) : (WW σ)[148]? = some (.inl (0, 20, .inl (σ.2.2.1 148))) := rfl
set_option maxRecDepth 100000 in
theorem c_149 (σ : Sg) : (WW σ)[149]? = some (.inl (0, 20, .inl (σ.2.2.1 149))) := rfl
set_option maxRecDepth 100000 in
theorem c_150 (σ : Sg) : (WW σ)[150]? = some (.inl (0, 160, .inl (σ.2.2.1 150))) := rfl
set_option maxRecDepth 100000 in
theorem c_151 (σ : Sg) : (WW σ)[151]? = some (.inl (0, 400, .inl (σ.2.2.1 151))) := rfl
set_option maxRecDepth 100000 in
theorem c_152 (σ : Sg) : (WW σ)[152]? = some (.inl (0, 20, .inl (σ.2.2.1 152))) := rfl
set_option maxRecDepth 100000 in
theorem c_153 (σ : Sg) : (WW σ)[153]? = some (.inl (0, 20, .inl (σ.2.2.1 153))) := rfl
set_option maxRecDepth 100000 in
theorem c_154 (σ : Sg) : (WW σ)[154]? = some (.inl (0, 9, .inl (σ.2.2.1 154))) := rfl
set_option maxRecDepth 100000 in
theorem c_155 (σ : Sg) : (WW σ)[155]? = some (.inl (0, 9, .inl (σ.2.2.1 155))) := rfl
set_option maxRecDepth 100000 in
theorem c_156 (σ : Sg) : (WW σ)[156]? = some (.inl (0, 8, .inl (σ.2.2.1 156))) := rfl
set_option maxRecDepth 100000 in
theorem c_157 (σ : Sg) : (WW σ)[157]? = some (.inl (0, 8, .inl (σ.2.2.1 157))) := rfl
set_option maxRecDepth 100000 in
theorem c_158 (σ : Sg) : (WW σ)[158]? = some (.inl (0, 160, .inl (σ.2.2.1 158))) := rfl
set_option maxRecDepth 100000 in
theorem c_159 (σ : Sg) : (WW σ)[159]? = some (.inl (0, 5, .inl (σ.2.2.1 159))) := rfl
set_option maxRecDepth 100000 in
theorem c_160 (σ : Sg) : (WW σ)[160]? = some (.inl (0, 5, .inl (σ.2.2.1 160))) := rfl
set_option maxRecDepth 100000 in
theorem c_161 (σ : Sg) : (WW σ)[161]? = some (.inl (0, 12, .inl (σ.2.2.1 161))) := rfl
set_option maxRecDepth 100000 in
theorem c_162 (σ : Sg) : (WW σ)[162]? = some (.inl (0, 12, .inl (σ.2.2.1 162))) := rfl
set_option maxRecDepth 100000 in
theorem c_163 (σ : Sg) : (WW σ)[163]? = some (.inl (0, 20, .inl (σ.2.2.1 163))) := rfl
set_option maxRecDepth 100000 in
theorem c_164 (σ : Sg) : (WW σ)[164]? = some (.inl (0, 20, .inl (σ.2.2.1 164))) := rfl
set_option maxRecDepth 100000 in
theorem c_165 (σ : Sg) : (WW σ)[165]? = some (.inl (0, 20, .inl (σ.2.2.1 165))) := rfl
set_option maxRecDepth 100000 in
theorem c_166 (σ : Sg) : (WW σ)[166]? = some (.inl (0, 20, .inl (σ.2.2.1 166))) := rfl
set_option maxRecDepth 100000 in
theorem c_167 (σ : Sg) : (WW σ)[167]? = some (.inl (0, 8, .inl (σ.2.2.1 167))) := rfl
set_option maxRecDepth 100000 in
theorem c_168 (σ : Sg) : (WW σ)[168]? = some (.inl (0, 20, .inl (σ.2.2.1 168))) := rfl
set_option maxRecDepth 100000 in
theorem c_169 (σ : Sg) : (WW σ)[169]? = some (.inl (0, 100, .inl (σ.2.2.1 169))) := rfl
set_option maxRecDepth 100000 in
theorem c_170 (σ : Sg) : (WW σ)[170]? = some (.inl (0, 160, .inl (σ.2.2.1 170))) := rfl
set_option maxRecDepth 100000 in
theorem c_171 (σ : Sg) : (WW σ)[171]? = some (.inl (0, 48, .inl (σ.2.2.1 171))) := rfl
set_option maxRecDepth 100000 in
theorem c_172 (σ : Sg) : (WW σ)[172]? = some (.inl (0, 48, .inl (σ.2.2.1 172))) := rfl
set_option maxRecDepth 100000 in
theorem s_0_9 (σ : Sg) (v : Int32) : (WW σ).set 0 (.inr (8, (fs0 σ).set 9 (.int v))) = WW (uI σ 9 v) := rfl
set_option maxRecDepth 100000 in
theorem s_1_10 (σ : Sg) (v : Int32) : (WW σ).set 1 (.inr (0, (fs1 σ).set 10 (.int v))) = WW (uI σ 110 v) := rfl
set_option maxRecDepth 100000 in
theorem s_1_11 (σ : Sg) (v : Int32) : (WW σ).set 1 (.inr (0, (fs1 σ).set 11 (.int v))) = WW (uI σ 111 v) := rfl
set_option maxRecDepth 100000 in
theorem s_1_12 (σ : Sg) (v : Int32) : (WW σ).set 1 (.inr (0, (fs1 σ).set 12 (.int v))) = WW (uI σ 112 v) := rfl
set_option maxRecDepth 100000 in
theorem a_2 (σ : Sg) (f : Nat → Int32) : (WW σ).set 2 (.inl (0, 20, .inl f)) = WW (uA σ 2 f) := rfl
set_option maxRecDepth 100000 in
theorem a_3 (σ : Sg) (f : Nat → Int32) : (WW σ).set 3 (.inl (0, 20, .inl f)) = WW (uA σ 3 f) := rfl
set_option maxRecDepth 100000 in
theorem a_4 (σ : Sg) (f : Nat → Int32) : (WW σ).set 4 (.inl (0, 20, .inl f)) = WW (uA σ 4 f) := rfl
set_option maxRecDepth 100000 in
theorem a_5 (σ : Sg) (f : Nat → Int32) : (WW σ).set 5 (.inl (0, 20, .inl f)) = WW (uA σ 5 f) := rfl
set_option maxRecDepth 100000 in
theorem a_6 (σ : Sg) (f : Nat → Int64) : (WW σ).set 6 (.inl (1, 20, .inr (.inl f))) = WW (uB σ 6 f) := rfl
set_option maxRecDepth 100000 in
theorem a_7 (σ : Sg) (f : Nat → Int32) : (WW σ).set 7 (.inl (0, 20, .inl f)) = WW (uA σ 7 f) := rfl
set_option maxRecDepth 100000 in
theorem a_8 (σ : Sg) (f : Nat → Int32) : (WW σ).set 8 (.inl (0, 20, .inl f)) = WW (uA σ 8 f) := rfl
set_option maxRecDepth 100000 in
theorem a_9 (σ : Sg) (f : Nat → Int32) : (WW σ).set 9 (.inl (0, 20, .inl f)) = WW (uA σ 9 f) := rfl
set_option maxRecDepth 100000 in
theorem a_10 (σ : Sg) (f : Nat → Int64) : (WW σ).set 10 (.inl (1, 20, .inr (.inl f))) = WW (uB σ 10 f) := rfl
set_option maxRecDepth 100000 in
theorem a_11 (σ : Sg) (f : Nat → Int32) : (WW σ).set 11 (.inl (0, 20, .inl f)) = WW (uA σ 11 f) := rfl
set_option maxRecDepth 100000 in
theorem s_12_4 (σ : Sg) (v : Int32) : (WW σ).set 12 (.inr (3, (fs12 σ).set 4 (.int v))) = WW (uI σ 1204 v) := rfl
set_option maxRecDepth 100000 in
theorem a_14 (σ : Sg) (f : Nat → Int32) : (WW σ).set 14 (.inl (0, 20, .inl f)) = WW (uA σ 14 f) := rfl
set_option maxRecDepth 100000 in
theorem a_15 (σ : Sg) (f : Nat → Int32) : (WW σ).set 15 (.inl (0, 20, .inl f)) = WW (uA σ 15 f) := rfl
set_option maxRecDepth 100000 in
theorem a_16 (σ : Sg) (f : Nat → Int32) : (WW σ).set 16 (.inl (0, 20, .inl f)) = WW (uA σ 16 f) := rfl
set_option maxRecDepth 100000 in
theorem a_17 (σ : Sg) (f : Nat → Int32) : (WW σ).set 17 (.inl (0, 20, .inl f)) = WW (uA σ 17 f) := rfl
set_option maxRecDepth 100000 in
theorem a_18 (σ : Sg) (f : Nat → Int32) : (WW σ).set 18 (.inl (0, 20, .inl f)) = WW (uA σ 18 f) := rfl
set_option maxRecDepth 100000 in
theorem a_19 (σ : Sg) (f : Nat → Int32) : (WW σ).set 19 (.inl (0, 20, .inl f)) = WW (uA σ 19 f) := rfl
set_option maxRecDepth 100000 in
theorem a_20 (σ : Sg) (f : Nat → Int32) : (WW σ).set 20 (.inl (0, 20, .inl f)) = WW (uA σ 20 f) := rfl
set_option maxRecDepth 100000 in
theorem a_21 (σ : Sg) (f : Nat → Int32) : (WW σ).set 21 (.inl (0, 20, .inl f)) = WW (uA σ 21 f) := rfl
set_option maxRecDepth 100000 in
theorem a_22 (σ : Sg) (f : Nat → Int32) : (WW σ).set 22 (.inl (0, 20, .inl f)) = WW (uA σ 22 f) := rfl
set_option maxRecDepth 100000 in
theorem a_23 (σ : Sg) (f : Nat → Int32) : (WW σ).set 23 (.inl (0, 20, .inl f)) = WW (uA σ 23 f) := rfl
set_option maxRecDepth 100000 in
theorem a_24 (σ : Sg) (f : Nat → Int32) : (WW σ).set 24 (.inl (0, 20, .inl f)) = WW (uA σ 24 f) := rfl
set_option maxRecDepth 100000 in
theorem a_25 (σ : Sg) (f : Nat → Int32) : (WW σ).set 25 (.inl (0, 20, .inl f)) = WW (uA σ 25 f) := rfl
set_option maxRecDepth 100000 in
theorem a_26 (σ : Sg) (f : Nat → Int32) : (WW σ).set 26 (.inl (0, 20, .inl f)) = WW (uA σ 26 f) := rfl
set_option maxRecDepth 100000 in
theorem a_27 (σ : Sg) (f : Nat → Int32) : (WW σ).set 27 (.inl (0, 20, .inl f)) = WW (uA σ 27 f) := rfl
set_option maxRecDepth 100000 in
theorem a_28 (σ : Sg) (f : Nat → Int32) : (WW σ).set 28 (.inl (0, 20, .inl f)) = WW (uA σ 28 f) := rfl
set_option maxRecDepth 100000 in
theorem a_29 (σ : Sg) (f : Nat → Int32) : (WW σ).set 29 (.inl (0, 20, .inl f)) = WW (uA σ 29 f) := rfl
set_option maxRecDepth 100000 in
theorem a_30 (σ : Sg) (f : Nat → Int32) : (WW σ).set 30 (.inl (0, 20, .inl f)) = WW (uA σ 30 f) := rfl
set_option maxRecDepth 100000 in
theorem a_31 (σ : Sg) (f : Nat → Int32) : (WW σ).set 31 (.inl (0, 20, .inl f)) = WW (uA σ 31 f) := rfl
set_option maxRecDepth 100000 in
theorem a_32 (σ : Sg) (f : Nat → Int32) : (WW σ).set 32 (.inl (0, 20, .inl f)) = WW (uA σ 32 f) := rfl
set_option maxRecDepth 100000 in
theorem a_33 (σ : Sg) (f : Nat → Int32) : (WW σ).set 33 (.inl (0, 20, .inl f)) = WW (uA σ 33 f) := rfl
set_option maxRecDepth 100000 in
theorem a_35 (σ : Sg) (f : Nat → Int32) : (WW σ).set 35 (.inl (0, 20, .inl f)) = WW (uA σ 35 f) := rfl
set_option maxRecDepth 100000 in
theorem a_36 (σ : Sg) (f : Nat → Int32) : (WW σ).set 36 (.inl (0, 20, .inl f)) = WW (uA σ 36 f) := rfl
set_option maxRecDepth 100000 in
theorem a_37 (σ : Sg) (f : Nat → Int32) : (WW σ).set 37 (.inl (0, 20, .inl f)) = WW (uA σ 37 f) := rfl
set_option maxRecDepth 100000 in
theorem a_38 (σ : Sg) (f : Nat → Int32) : (WW σ).set 38 (.inl (0, 20, .inl f)) = WW (uA σ 38 f) := rfl
set_option maxRecDepth 100000 in
theorem a_39 (σ : Sg) (f : Nat → Int32) : (WW σ).set 39 (.inl (0, 20, .inl f)) = WW (uA σ 39 f) := rfl
set_option maxRecDepth 100000 in
theorem a_40 (σ : Sg) (f : Nat → Int32) : (WW σ).set 40 (.inl (0, 20, .inl f)) = WW (uA σ 40 f) := rfl
set_option maxRecDepth 100000 in
theorem a_41 (σ : Sg) (f : Nat → Int32) : (WW σ).set 41 (.inl (0, 20, .inl f)) = WW (uA σ 41 f) := rfl
set_option maxRecDepth 100000 in
theorem a_42 (σ : Sg) (f : Nat → Int32) : (WW σ).set 42 (.inl (0, 20, .inl f)) = WW (uA σ 42 f) := rfl
set_option maxRecDepth 100000 in
theorem a_43 (σ : Sg) (f : Nat → Int32) : (WW σ).set 43 (.inl (0, 20, .inl f)) = WW (uA σ 43 f) := rfl
set_option maxRecDepth 100000 in
theorem a_44 (σ : Sg) (f : Nat → Int32) : (WW σ).set 44 (.inl (0, 20, .inl f)) = WW (uA σ 44 f) := rfl
set_option maxRecDepth 100000 in
theorem a_45 (σ : Sg) (f : Nat → Int32) : (WW σ).set 45 (.inl (0, 20, .inl f)) = WW (uA σ 45 f) := rfl
set_option maxRecDepth 100000 in
theorem a_46 (σ : Sg) (f : Nat → Int32) : (WW σ).set 46 (.inl (0, 20, .inl f)) = WW (uA σ 46 f) := rfl
set_option maxRecDepth 100000 in
theorem a_47 (σ : Sg) (f : Nat → Int32) : (WW σ).set 47 (.inl (0, 20, .inl f)) = WW (uA σ 47 f) := rfl
set_option maxRecDepth 100000 in
theorem a_48 (σ : Sg) (f : Nat → Int32) : (WW σ).set 48 (.inl (0, 20, .inl f)) = WW (uA σ 48 f) := rfl
set_option maxRecDepth 100000 in
theorem a_49 (σ : Sg) (f : Nat → Int32) : (WW σ).set 49 (.inl (0, 20, .inl f)) = WW (uA σ 49 f) := rfl
set_option maxRecDepth 100000 in
theorem a_50 (σ : Sg) (f : Nat → Int32) : (WW σ).set 50 (.inl (0, 20, .inl f)) = WW (uA σ 50 f) := rfl
set_option maxRecDepth 100000 in
theorem a_51 (σ : Sg) (f : Nat → Int32) : (WW σ).set 51 (.inl (0, 20, .inl f)) = WW (uA σ 51 f) := rfl
set_option maxRecDepth 100000 in
theorem a_52 (σ : Sg) (f : Nat → Int32) : (WW σ).set 52 (.inl (0, 20, .inl f)) = WW (uA σ 52 f) := rfl
set_option maxRecDepth 100000 in
theorem a_53 (σ : Sg) (f : Nat → Int32) : (WW σ).set 53 (.inl (0, 20, .inl f)) = WW (uA σ 53 f) := rfl
set_option maxRecDepth 100000 in
theorem a_54 (σ : Sg) (f : Nat → Int32) : (WW σ).set 54 (.inl (0, 20, .inl f)) = WW (uA σ 54 f) := rfl
set_option maxRecDepth 100000 in
theorem a_55 (σ : Sg) (f : Nat → Int32) : (WW σ).set 55 (.inl (0, 9, .inl f)) = WW (uA σ 55 f) := rfl
set_option maxRecDepth 100000 in
theorem s_56_2 (σ : Sg) (v : Int32) : (WW σ).set 56 (.inr (5, (fs56 σ).set 2 (.int v))) = WW (uI σ 5602 v) := rfl
set_option maxRecDepth 100000 in
theorem s_56_3 (σ : Sg) (v : Int32) : (WW σ).set 56 (.inr (5, (fs56 σ).set 3 (.int v))) = WW (uI σ 5603 v) := rfl
set_option maxRecDepth 100000 in
theorem s_56_4 (σ : Sg) (v : Int32) : (WW σ).set 56 (.inr (5, (fs56 σ).set 4 (.int v))) = WW (uI σ 5604 v) := rfl
set_option maxRecDepth 100000 in
theorem a_57 (σ : Sg) (f : Nat → Int32) : (WW σ).set 57 (.inl (2, 100, .inl f)) = WW (uA σ 57 f) := rfl
set_option maxRecDepth 100000 in
theorem s_58_9 (σ : Sg) (v : Int32) : (WW σ).set 58 (.inr (1, (fs58 σ).set 9 (.int v))) = WW (uI σ 5809 v) := rfl
set_option maxRecDepth 100000 in
theorem a_59 (σ : Sg) (f : Nat → Int32) : (WW σ).set 59 (.inl (0, 8, .inl f)) = WW (uA σ 59 f) := rfl
set_option maxRecDepth 100000 in
theorem a_60 (σ : Sg) (f : Nat → Int32) : (WW σ).set 60 (.inl (0, 8, .inl f)) = WW (uA σ 60 f) := rfl
set_option maxRecDepth 100000 in
theorem a_61 (σ : Sg) (f : Nat → Int32) : (WW σ).set 61 (.inl (0, 5, .inl f)) = WW (uA σ 61 f) := rfl
set_option maxRecDepth 100000 in
theorem a_62 (σ : Sg) (f : Nat → Int32) : (WW σ).set 62 (.inl (0, 5, .inl f)) = WW (uA σ 62 f) := rfl
set_option maxRecDepth 100000 in
theorem a_64 (σ : Sg) (f : Nat → Int32) : (WW σ).set 64 (.inl (0, 8, .inl f)) = WW (uA σ 64 f) := rfl
set_option maxRecDepth 100000 in
theorem a_65 (σ : Sg) (f : Nat → Int32) : (WW σ).set 65 (.inl (0, 8, .inl f)) = WW (uA σ 65 f) := rfl
set_option maxRecDepth 100000 in
theorem a_66 (σ : Sg) (f : Nat → Int32) : (WW σ).set 66 (.inl (0, 8, .inl f)) = WW (uA σ 66 f) := rfl
set_option maxRecDepth 100000 in
theorem a_67 (σ : Sg) (f : Nat → Int32) : (WW σ).set 67 (.inl (0, 8, .inl f)) = WW (uA σ 67 f) := rfl
set_option maxRecDepth 100000 in
theorem a_68 (σ : Sg) (f : Nat → Int32) : (WW σ).set 68 (.inl (0, 8, .inl f)) = WW (uA σ 68 f) := rfl
set_option maxRecDepth 100000 in
theorem a_69 (σ : Sg) (f : Nat → Int32) : (WW σ).set 69 (.inl (0, 8, .inl f)) = WW (uA σ 69 f) := rfl
set_option maxRecDepth 100000 in
theorem a_70 (σ : Sg) (f : Nat → Int32) : (WW σ).set 70 (.inl (0, 8, .inl f)) = WW (uA σ 70 f) := rfl
set_option maxRecDepth 100000 in
theorem a_71 (σ : Sg) (f : Nat → Int32) : (WW σ).set 71 (.inl (0, 8, .inl f)) = WW (uA σ 71 f) := rfl
set_option maxRecDepth 100000 in
theorem a_72 (σ : Sg) (f : Nat → Int32) : (WW σ).set 72 (.inl (0, 8, .inl f)) = WW (uA σ 72 f) := rfl
set_option maxRecDepth 100000 in
theorem a_73 (σ : Sg) (f : Nat → Int32) : (WW σ).set 73 (.inl (0, 8, .inl f)) = WW (uA σ 73 f) := rfl
set_option maxRecDepth 100000 in
theorem a_74 (σ : Sg) (f : Nat → Int32) : (WW σ).set 74 (.inl (0, 8, .inl f)) = WW (uA σ 74 f) := rfl
set_option maxRecDepth 100000 in
theorem a_75 (σ : Sg) (f : Nat → Int32) : (WW σ).set 75 (.inl (0, 8, .inl f)) = WW (uA σ 75 f) := rfl
set_option maxRecDepth 100000 in
theorem a_76 (σ : Sg) (f : Nat → Int32) : (WW σ).set 76 (.inl (0, 8, .inl f)) = WW (uA σ 76 f) := rfl
set_option maxRecDepth 100000 in
theorem a_77 (σ : Sg) (f : Nat → Int32) : (WW σ).set 77 (.inl (0, 8, .inl f)) = WW (uA σ 77 f) := rfl
set_option maxRecDepth 100000 in
theorem a_78 (σ : Sg) (f : Nat → Int32) : (WW σ).set 78 (.inl (0, 8, .inl f)) = WW (uA σ 78 f) := rfl
set_option maxRecDepth 100000 in
theorem a_79 (σ : Sg) (f : Nat → Int32) : (WW σ).set 79 (.inl (0, 8, .inl f)) = WW (uA σ 79 f) := rfl
set_option maxRecDepth 100000 in
theorem a_80 (σ : Sg) (f : Nat → Int32) : (WW σ).set 80 (.inl (0, 8, .inl f)) = WW (uA σ 80 f) := rfl
set_option maxRecDepth 100000 in
theorem a_81 (σ : Sg) (f : Nat → Int32) : (WW σ).set 81 (.inl (0, 8, .inl f)) = WW (uA σ 81 f) := rfl
set_option maxRecDepth 100000 in
theorem a_82 (σ : Sg) (f : Nat → Int32) : (WW σ).set 82 (.inl (0, 8, .inl f)) = WW (uA σ 82 f) := rfl
set_option maxRecDepth 100000 in
theorem a_83 (σ : Sg) (f : Nat → Int32) : (WW σ).set 83 (.inl (0, 8, .inl f)) = WW (uA σ 83 f) := rfl
set_option maxRecDepth 100000 in
theorem a_84 (σ : Sg) (f : Nat → Int32) : (WW σ).set 84 (.inl (0, 12, .inl f)) = WW (uA σ 84 f) := rfl
set_option maxRecDepth 100000 in
theorem a_85 (σ : Sg) (f : Nat → Int32) : (WW σ).set 85 (.inl (0, 12, .inl f)) = WW (uA σ 85 f) := rfl
set_option maxRecDepth 100000 in
theorem s_86_2 (σ : Sg) (v : Int32) : (WW σ).set 86 (.inr (7, (fs86 σ).set 2 (.int v))) = WW (uI σ 8602 v) := rfl
set_option maxRecDepth 100000 in
theorem a_87 (σ : Sg) (f : Nat → Int32) : (WW σ).set 87 (.inl (0, 20, .inl f)) = WW (uA σ 87 f) := rfl
set_option maxRecDepth 100000 in
theorem a_88 (σ : Sg) (f : Nat → Int32) : (WW σ).set 88 (.inl (0, 20, .inl f)) = WW (uA σ 88 f) := rfl
set_option maxRecDepth 100000 in
theorem s_89_2 (σ : Sg) (v : Int32) : (WW σ).set 89 (.inr (7, (fs89 σ).set 2 (.int v))) = WW (uI σ 8902 v) := rfl
set_option maxRecDepth 100000 in
theorem a_90 (σ : Sg) (f : Nat → Int32) : (WW σ).set 90 (.inl (0, 20, .inl f)) = WW (uA σ 90 f) := rfl
set_option maxRecDepth 100000 in
theorem a_91 (σ : Sg) (f : Nat → Int32) : (WW σ).set 91 (.inl (0, 20, .inl f)) = WW (uA σ 91 f) := rfl
set_option maxRecDepth 100000 in
theorem a_92 (σ : Sg) (f : Nat → Int32) : (WW σ).set 92 (.inl (0, 20, .inl f)) = WW (uA σ 92 f) := rfl
set_option maxRecDepth 100000 in
theorem s_93_1 (σ : Sg) (v : Int64) : (WW σ).set 93 (.inr (2, (fs93 σ).set 1 (.long v))) = WW (uJ σ 9301 v) := rfl
set_option maxRecDepth 100000 in
theorem a_94 (σ : Sg) (f : Nat → Int32) : (WW σ).set 94 (.inl (0, 8, .inl f)) = WW (uA σ 94 f) := rfl
set_option maxRecDepth 100000 in
theorem a_96 (σ : Sg) (f : Nat → Int32) : (WW σ).set 96 (.inl (0, 5, .inl f)) = WW (uA σ 96 f) := rfl
set_option maxRecDepth 100000 in
theorem a_97 (σ : Sg) (f : Nat → Int32) : (WW σ).set 97 (.inl (0, 5, .inl f)) = WW (uA σ 97 f) := rfl
set_option maxRecDepth 100000 in
theorem a_98 (σ : Sg) (f : Nat → Int32) : (WW σ).set 98 (.inl (0, 5, .inl f)) = WW (uA σ 98 f) := rfl
set_option maxRecDepth 100000 in
theorem a_99 (σ : Sg) (f : Nat → Int32) : (WW σ).set 99 (.inl (0, 5, .inl f)) = WW (uA σ 99 f) := rfl
set_option maxRecDepth 100000 in
theorem a_100 (σ : Sg) (f : Nat → Int32) : (WW σ).set 100 (.inl (0, 5, .inl f)) = WW (uA σ 100 f) := rfl
set_option maxRecDepth 100000 in
theorem a_101 (σ : Sg) (f : Nat → Int32) : (WW σ).set 101 (.inl (0, 5, .inl f)) = WW (uA σ 101 f) := rfl
set_option maxRecDepth 100000 in
theorem a_102 (σ : Sg) (f : Nat → Int32) : (WW σ).set 102 (.inl (0, 5, .inl f)) = WW (uA σ 102 f) := rfl
set_option maxRecDepth 100000 in
theorem a_103 (σ : Sg) (f : Nat → Int32) : (WW σ).set 103 (.inl (0, 5, .inl f)) = WW (uA σ 103 f) := rfl
set_option maxRecDepth 100000 in
theorem a_104 (σ : Sg) (f : Nat → Int32) : (WW σ).set 104 (.inl (0, 5, .inl f)) = WW (uA σ 104 f) := rfl
set_option maxRecDepth 100000 in
theorem a_105 (σ : Sg) (f : Nat → Int32) : (WW σ).set 105 (.inl (0, 5, .inl f)) = WW (uA σ 105 f) := rfl
set_option maxRecDepth 100000 in
theorem a_106 (σ : Sg) (f : Nat → Int32) : (WW σ).set 106 (.inl (0, 5, .inl f)) = WW (uA σ 106 f) := rfl
set_option maxRecDepth 100000 in
theorem a_107 (σ : Sg) (f : Nat → Int32) : (WW σ).set 107 (.inl (0, 5, .inl f)) = WW (uA σ 107 f) := rfl
set_option maxRecDepth 100000 in
theorem a_108 (σ : Sg) (f : Nat → Int32) : (WW σ).set 108 (.inl (0, 5, .inl f)) = WW (uA σ 108 f) := rfl
set_option maxRecDepth 100000 in
theorem a_109 (σ : Sg) (f : Nat → Int32) : (WW σ).set 109 (.inl (0, 5, .inl f)) = WW (uA σ 109 f) := rfl
set_option maxRecDepth 100000 in
theorem a_110 (σ : Sg) (f : Nat → Int32) : (WW σ).set 110 (.inl (0, 5, .inl f)) = WW (uA σ 110 f) := rfl
set_option maxRecDepth 100000 in
theorem a_111 (σ : Sg) (f : Nat → Int32) : (WW σ).set 111 (.inl (0, 5, .inl f)) = WW (uA σ 111 f) := rfl
set_option maxRecDepth 100000 in
theorem a_112 (σ : Sg) (f : Nat → Int32) : (WW σ).set 112 (.inl (0, 5, .inl f)) = WW (uA σ 112 f) := rfl
set_option maxRecDepth 100000 in
theorem a_113 (σ : Sg) (f : Nat → Int32) : (WW σ).set 113 (.inl (0, 5, .inl f)) = WW (uA σ 113 f) := rfl
set_option maxRecDepth 100000 in
theorem a_114 (σ : Sg) (f : Nat → Int32) : (WW σ).set 114 (.inl (0, 5, .inl f)) = WW (uA σ 114 f) := rfl
set_option maxRecDepth 100000 in
theorem a_115 (σ : Sg) (f : Nat → Int32) : (WW σ).set 115 (.inl (0, 5, .inl f)) = WW (uA σ 115 f) := rfl
set_option maxRecDepth 100000 in
theorem a_116 (σ : Sg) (f : Nat → Int32) : (WW σ).set 116 (.inl (0, 20, .inl f)) = WW (uA σ 116 f) := rfl
set_option maxRecDepth 100000 in
theorem s_117_1 (σ : Sg) (v : Int32) : (WW σ).set 117 (.inr (6, (fs117 σ).set 1 (.int v))) = WW (uI σ 11701 v) := rfl
set_option maxRecDepth 100000 in
theorem s_117_2 (σ : Sg) (v : Int32) : (WW σ).set 117 (.inr (6, (fs117 σ).set 2 (.int v))) = WW (uI σ 11702 v) := rfl
set_option maxRecDepth 100000 in
theorem s_117_3 (σ : Sg) (v : Int32) : (WW σ).set 117 (.inr (6, (fs117 σ).set 3 (.int v))) = WW (uI σ 11703 v) := rfl
set_option maxRecDepth 100000 in
theorem s_117_4 (σ : Sg) (v : Int32) : (WW σ).set 117 (.inr (6, (fs117 σ).set 4 (.int v))) = WW (uI σ 11704 v) := rfl
set_option maxRecDepth 100000 in
theorem a_118 (σ : Sg) (f : Nat → Int32) : (WW σ).set 118 (.inl (0, 160, .inl f)) = WW (uA σ 118 f) := rfl
set_option maxRecDepth 100000 in
theorem s_119_6 (σ : Sg) (v : Int32) : (WW σ).set 119 (.inr (4, (fs119 σ).set 6 (.int v))) = WW (uI σ 11906 v) := rfl
set_option maxRecDepth 100000 in
theorem a_120 (σ : Sg) (f : Nat → Int32) : (WW σ).set 120 (.inl (0, 8, .inl f)) = WW (uA σ 120 f) := rfl
set_option maxRecDepth 100000 in
theorem a_121 (σ : Sg) (f : Nat → Int32) : (WW σ).set 121 (.inl (0, 8, .inl f)) = WW (uA σ 121 f) := rfl
set_option maxRecDepth 100000 in
theorem a_122 (σ : Sg) (f : Nat → Int32) : (WW σ).set 122 (.inl (0, 8, .inl f)) = WW (uA σ 122 f) := rfl
set_option maxRecDepth 100000 in
theorem a_123 (σ : Sg) (f : Nat → Int32) : (WW σ).set 123 (.inl (2, 8, .inl f)) = WW (uA σ 123 f) := rfl
set_option maxRecDepth 100000 in
theorem a_124 (σ : Sg) (f : Nat → Int32) : (WW σ).set 124 (.inl (0, 8, .inl f)) = WW (uA σ 124 f) := rfl
set_option maxRecDepth 100000 in
theorem a_125 (σ : Sg) (f : Nat → Int32) : (WW σ).set 125 (.inl (0, 8, .inl f)) = WW (uA σ 125 f) := rfl
set_option maxRecDepth 100000 in
theorem s_126_6 (σ : Sg) (v : Int32) : (WW σ).set 126 (.inr (4, (fs126 σ).set 6 (.int v))) = WW (uI σ 12606 v) := rfl
set_option maxRecDepth 100000 in
theorem a_127 (σ : Sg) (f : Nat → Int32) : (WW σ).set 127 (.inl (0, 8, .inl f)) = WW (uA σ 127 f) := rfl
set_option maxRecDepth 100000 in
theorem a_128 (σ : Sg) (f : Nat → Int32) : (WW σ).set 128 (.inl (0, 8, .inl f)) = WW (uA σ 128 f) := rfl
set_option maxRecDepth 100000 in
theorem a_129 (σ : Sg) (f : Nat → Int32) : (WW σ).set 129 (.inl (0, 8, .inl f)) = WW (uA σ 129 f) := rfl
set_option maxRecDepth 100000 in
theorem a_130 (σ : Sg) (f : Nat → Int32) : (WW σ).set 130 (.inl (2, 8, .inl f)) = WW (uA σ 130 f) := rfl
set_option maxRecDepth 100000 in
theorem a_131 (σ : Sg) (f : Nat → Int32) : (WW σ).set 131 (.inl (0, 8, .inl f)) = WW (uA σ 131 f) := rfl
set_option maxRecDepth 100000 in
theorem a_132 (σ : Sg) (f : Nat → Int32) : (WW σ).set 132 (.inl (0, 8, .inl f)) = WW (uA σ 132 f) := rfl
set_option maxRecDepth 100000 in
theorem s_133_6 (σ : Sg) (v : Int32) : (WW σ).set 133 (.inr (4, (fs133 σ).set 6 (.int v))) = WW (uI σ 13306 v) := rfl
set_option maxRecDepth 100000 in
theorem a_134 (σ : Sg) (f : Nat → Int32) : (WW σ).set 134 (.inl (0, 8, .inl f)) = WW (uA σ 134 f) := rfl
set_option maxRecDepth 100000 in
theorem a_135 (σ : Sg) (f : Nat → Int32) : (WW σ).set 135 (.inl (0, 8, .inl f)) = WW (uA σ 135 f) := rfl
set_option maxRecDepth 100000 in
theorem a_136 (σ : Sg) (f : Nat → Int32) : (WW σ).set 136 (.inl (0, 8, .inl f)) = WW (uA σ 136 f) := rfl
set_option maxRecDepth 100000 in
theorem a_137 (σ : Sg) (f : Nat → Int32) : (WW σ).set 137 (.inl (2, 8, .inl f)) = WW (uA σ 137 f) := rfl
set_option maxRecDepth 100000 in
theorem a_138 (σ : Sg) (f : Nat → Int32) : (WW σ).set 138 (.inl (0, 8, .inl f)) = WW (uA σ 138 f) := rfl
set_option maxRecDepth 100000 in
theorem a_139 (σ : Sg) (f : Nat → Int32) : (WW σ).set 139 (.inl (0, 8, .inl f)) = WW (uA σ 139 f) := rfl
set_option maxRecDepth 100000 in
theorem s_140_0 (σ : Sg) (v : Int32) : (WW σ).set 140 (.inr (9, (fs140 σ).set 0 (.int v))) = WW (uI σ 14000 v) := rfl
set_option maxRecDepth 100000 in
theorem s_140_11 (σ : Sg) (v : Int32) : (WW σ).set 140 (.inr (9, (fs140 σ).set 11 (.int v))) = WW (uI σ 14011 v) := rfl
set_option maxRecDepth 100000 in
theorem s_140_12 (σ : Sg) (v : Int32) : (WW σ).set 140 (.inr (9, (fs140 σ).set 12 (.int v))) = WW (uI σ 14012 v) := rfl
set_option maxRecDepth 100000 in
theorem s_140_13 (σ : Sg) (v : Int32) : (WW σ).set 140 (.inr (9, (fs140 σ).set 13 (.int v))) = WW (uI σ 14013 v) := rfl
set_option maxRecDepth 100000 in
theorem s_140_14 (σ : Sg) (v : Int32) : (WW σ).set 140 (.inr (9, (fs140 σ).set 14 (.int v))) = WW (uI σ 14014 v) := rfl
set_option maxRecDepth 100000 in
theorem s_140_25 (σ : Sg) (v : Int32) : (WW σ).set 140 (.inr (9, (fs140 σ).set 25 (.int v))) = WW (uI σ 14025 v) := rfl
set_option maxRecDepth 100000 in
theorem s_140_32 (σ : Sg) (v : Int32) : (WW σ).set 140 (.inr (9, (fs140 σ).set 32 (.int v))) = WW (uI σ 14032 v) := rfl
set_option maxRecDepth 100000 in
theorem s_140_34 (σ : Sg) (v : Int64) : (WW σ).set 140 (.inr (9, (fs140 σ).set 34 (.long v))) = WW (uJ σ 14034 v) := rfl
set_option maxRecDepth 100000 in
theorem s_140_37 (σ : Sg) (v : Int32) : (WW σ).set 140 (.inr (9, (fs140 σ).set 37 (.int v))) = WW (uI σ 14037 v) := rfl
set_option maxRecDepth 100000 in
theorem s_140_39 (σ : Sg) (v : Int32) : (WW σ).set 140 (.inr (9, (fs140 σ).set 39 (.int v))) = WW (uI σ 14039 v) := rfl
set_option maxRecDepth 100000 in
theorem s_140_40 (σ : Sg) (v : Int32) : (WW σ).set 140 (.inr (9, (fs140 σ).set 40 (.int v))) = WW (uI σ 14040 v) := rfl
set_option maxRecDepth 100000 in
theorem s_140_41 (σ : Sg) (v : Int64) : (WW σ).set 140 (.inr (9, (fs140 σ).set 41 (.long v))) = WW (uJ σ 14041 v) := rfl
set_option maxRecDepth 100000 in
theorem s_140_42 (σ : Sg) (v : Int32) : (WW σ).set 140 (.inr (9, (fs140 σ).set 42 (.int v))) = WW (uI σ 14042 v) := rfl
set_option maxRecDepth 100000 in
theorem s_140_43 (σ : Sg) (v : Int32) : (WW σ).set 140 (.inr (9, (fs140 σ).set 43 (.int v))) = WW (uI σ 14043 v) := rfl
set_option maxRecDepth 100000 in
theorem s_140_44 (σ : Sg) (v : Int32) : (WW σ).set 140 (.inr (9, (fs140 σ).set 44 (.int v))) = WW (uI σ 14044 v) := rfl
set_option maxRecDepth 100000 in
theorem s_140_45 (σ : Sg) (v : Int32) : (WW σ).set 140 (.inr (9, (fs140 σ).set 45 (.int v))) = WW (uI σ 14045 v) := rfl
set_option maxRecDepth 100000 in
theorem s_140_47 (σ : Sg) (v : Int32) : (WW σ).set 140 (.inr (9, (fs140 σ).set 47 (.int v))) = WW (uI σ 14047 v) := rfl
set_option maxRecDepth 100000 in
theorem a_141 (σ : Sg) (f : Nat → Int32) : (WW σ).set 141 (.inl (0, 20, .inl f)) = WW (uA σ 141 f) := rfl
set_option maxRecDepth 100000 in
theorem a_142 (σ : Sg) (f : Nat → Int32) : (WW σ).set 142 (.inl (0, 20, .inl f)) = WW (uA σ 142 f) := rfl
set_option maxRecDepth 100000 in
theorem a_143 (σ : Sg) (f : Nat → Int32) : (WW σ).set 143 (.inl (0, 20, .inl f)) = WW (uA σ 143 f) := rfl
set_option maxRecDepth 100000 in
theorem a_144 (σ : Sg) (f : Nat → Int32) : (WW σ).set 144 (.inl (0, 20, .inl f)) = WW (uA σ 144 f) := rfl
set_option maxRecDepth 100000 in
theorem a_145 (σ : Sg) (f : Nat → Int64) : (WW σ).set 145 (.inl (1, 20, .inr (.inl f))) = WW (uB σ 145 f) := rfl
set_option maxRecDepth 100000 in
theorem a_146 (σ : Sg) (f : Nat → Int32) : (WW σ).set 146 (.inl (0, 20, .inl f)) = WW (uA σ 146 f) := rfl
set_option maxRecDepth 100000 in
theorem a_147 (σ : Sg) (f : Nat → Int32) : (WW σ).set 147 (.inl (0, 20, .inl f)) = WW (uA σ 147 f) := rfl
set_option maxRecDepth 100000 in
theorem a_148 (σ : Sg) (f : Nat → Int32) : (WW σ).set 148 (.inl (0, 20, .inl f)) = WW (uA σ 148 f) := rfl
set_option maxRecDepth 100000 in
theorem a_149 (σ : Sg) (f : Nat → Int32) : (WW σ).set 149 (.inl (0, 20, .inl f)) = WW (uA σ 149 f) := rfl
set_option maxRecDepth 100000 in
theorem a_150 (σ : Sg) (f : Nat → Int32) : (WW σ).set 150 (.inl (0, 160, .inl f)) = WW (uA σ 150 f) := rfl
set_option maxRecDepth 100000 in
theorem a_151 (σ : Sg) (f : Nat → Int32) : (WW σ).set 151 (.inl (0, 400, .inl f)) = WW (uA σ 151 f) := rfl
set_option maxRecDepth 100000 in
theorem a_152 (σ : Sg) (f : Nat → Int32) : (WW σ).set 152 (.inl (0, 20, .inl f)) = WW (uA σ 152 f) := rfl
set_option maxRecDepth 100000 in
theorem a_153 (σ : Sg) (f : Nat → Int32) : (WW σ).set 153 (.inl (0, 20, .inl f)) = WW (uA σ 153 f) := rfl
set_option maxRecDepth 100000 in
theorem a_154 (σ : Sg) (f : Nat → Int32) : (WW σ).set 154 (.inl (0, 9, .inl f)) = WW (uA σ 154 f) := rfl
set_option maxRecDepth 100000 in
theorem a_155 (σ : Sg) (f : Nat → Int32) : (WW σ).set 155 (.inl (0, 9, .inl f)) = WW (uA σ 155 f) := rfl
set_option maxRecDepth 100000 in
theorem a_156 (σ : Sg) (f : Nat → Int32) : (WW σ).set 156 (.inl (0, 8, .inl f)) = WW (uA σ 156 f) := rfl
set_option maxRecDepth 100000 in
theorem a_157 (σ : Sg) (f : Nat → Int32) : (WW σ).set 157 (.inl (0, 8, .inl f)) = WW (uA σ 157 f) := rfl
set_option maxRecDepth 100000 in
theorem a_158 (σ : Sg) (f : Nat → Int32) : (WW σ).set 158 (.inl (0, 160, .inl f)) = WW (uA σ 158 f) := rfl
set_option maxRecDepth 100000 in
theorem a_159 (σ : Sg) (f : Nat → Int32) : (WW σ).set 159 (.inl (0, 5, .inl f)) = WW (uA σ 159 f) := rfl
set_option maxRecDepth 100000 in
theorem a_160 (σ : Sg) (f : Nat → Int32) : (WW σ).set 160 (.inl (0, 5, .inl f)) = WW (uA σ 160 f) := rfl
set_option maxRecDepth 100000 in
theorem a_161 (σ : Sg) (f : Nat → Int32) : (WW σ).set 161 (.inl (0, 12, .inl f)) = WW (uA σ 161 f) := rfl
set_option maxRecDepth 100000 in
theorem a_162 (σ : Sg) (f : Nat → Int32) : (WW σ).set 162 (.inl (0, 12, .inl f)) = WW (uA σ 162 f) := rfl
set_option maxRecDepth 100000 in
theorem a_163 (σ : Sg) (f : Nat → Int32) : (WW σ).set 163 (.inl (0, 20, .inl f)) = WW (uA σ 163 f) := rfl
set_option maxRecDepth 100000 in
theorem a_164 (σ : Sg) (f : Nat → Int32) : (WW σ).set 164 (.inl (0, 20, .inl f)) = WW (uA σ 164 f) := rfl
set_option maxRecDepth 100000 in
theorem a_165 (σ : Sg) (f : Nat → Int32) : (WW σ).set 165 (.inl (0, 20, .inl f)) = WW (uA σ 165 f) := rfl
set_option maxRecDepth 100000 in
theorem a_166 (σ : Sg) (f : Nat → Int32) : (WW σ).set 166 (.inl (0, 20, .inl f)) = WW (uA σ 166 f) := rfl
set_option maxRecDepth 100000 in
theorem a_167 (σ : Sg) (f : Nat → Int32) : (WW σ).set 167 (.inl (0, 8, .inl f)) = WW (uA σ 167 f) := rfl
set_option maxRecDepth 100000 in
theorem a_168 (σ : Sg) (f : Nat → Int32) : (WW σ).set 168 (.inl (0, 20, .inl f)) = WW (uA σ 168 f) := rfl
set_option maxRecDepth 100000 in
theorem a_169 (σ : Sg) (f : Nat → Int32) : (WW σ).set 169 (.inl (0, 100, .inl f)) = WW (uA σ 169 f) := rfl
set_option maxRecDepth 100000 in
theorem a_170 (σ : Sg) (f : Nat → Int32) : (WW σ).set 170 (.inl (0, 160, .inl f)) = WW (uA σ 170 f) := rfl
set_option maxRecDepth 100000 in
theorem a_171 (σ : Sg) (f : Nat → Int32) : (WW σ).set 171 (.inl (0, 48, .inl f)) = WW (uA σ 171 f) := rfl
set_option maxRecDepth 100000 in
theorem a_172 (σ : Sg) (f : Nat → Int32) : (WW σ).set 172 (.inl (0, 48, .inl f)) = WW (uA σ 172 f) := rfl
set_option maxRecDepth 100000 in
theorem s_0_7 (σ : Sg) (v : Nat) : (WW σ).set 0 (.inr (8, (fs0 σ).set 7 (.ref v))) = WW (uN σ v σ.2.2.2.2.2) := rfl
set_option maxRecDepth 100000 in
theorem s_0_8 (σ : Sg) (v : Nat) : (WW σ).set 0 (.inr (8, (fs0 σ).set 8 (.ref v))) = WW (uN σ σ.2.2.2.2.1 v) := rfl
set_option maxRecDepth 100000 in
theorem r_13 (σ : Sg) : ∀ (i : Nat), i < 20 → (WW σ)[14 + i]? = some (.inl (0, 20, .inl (σ.2.2.1 (14 + i))))
  | 0, _ => rfl
  | 1, _ => rfl
  | 2, _ => rfl
  | 3, _ => rfl
  | 4, _ => rfl
  | 5, _ => rfl
  | 6, _ => rfl
  | 7, _ => rfl
  | 8, _ => rfl
  | 9, _ => rfl
  | 10, _ => rfl
  | 11, _ => rfl
  | 12, _ => rfl
  | 13, _ => rfl
  | 14, _ => rfl
  | 15, _ => rfl
  | 16, _ => rfl
  | 17, _ => rfl
  | 18, _ => rfl
  | 19, _ => rfl
  | i + 20, h => absurd h (by omega)
set_option maxRecDepth 100000 in
theorem ra_13 (σ : Sg) (f : Nat → Int32) : ∀ (i : Nat), i < 20 → (WW σ).set (14 + i) (.inl (0, 20, .inl f)) = WW (uA σ (14 + i) f)
  | 0, _ => rfl
  | 1, _ => rfl
  | 2, _ => rfl
  | 3, _ => rfl
  | 4, _ => rfl
  | 5, _ => rfl
  | 6, _ => rfl
  | 7, _ => rfl
  | 8, _ => rfl
  | 9, _ => rfl
  | 10, _ => rfl
  | 11, _ => rfl
  | 12, _ => rfl
  | 13, _ => rfl
  | 14, _ => rfl
  | 15, _ => rfl
  | 16, _ => rfl
  | 17, _ => rfl
  | 18, _ => rfl
  | 19, _ => rfl
  | i + 20, h => absurd h (by omega)
set_option maxRecDepth 100000 in
theorem r_34 (σ : Sg) : ∀ (i : Nat), i < 20 → (WW σ)[35 + i]? = some (.inl (0, 20, .inl (σ.2.2.1 (35 + i))))
  | 0, _ => rfl
  | 1, _ => rfl
  | 2, _ => rfl
  | 3, _ => rfl
  | 4, _ => rfl
  | 5, _ => rfl
  | 6, _ => rfl
  | 7, _ => rfl
  | 8, _ => rfl
  | 9, _ => rfl
  | 10, _ => rfl
  | 11, _ => rfl
  | 12, _ => rfl
  | 13, _ => rfl
  | 14, _ => rfl
  | 15, _ => rfl
  | 16, _ => rfl
  | 17, _ => rfl
  | 18, _ => rfl
  | 19, _ => rfl
  | i + 20, h => absurd h (by omega)
set_option maxRecDepth 100000 in
theorem ra_34 (σ : Sg) (f : Nat → Int32) : ∀ (i : Nat), i < 20 → (WW σ).set (35 + i) (.inl (0, 20, .inl f)) = WW (uA σ (35 + i) f)
  | 0, _ => rfl
  | 1, _ => rfl
  | 2, _ => rfl
  | 3, _ => rfl
  | 4, _ => rfl
  | 5, _ => rfl
  | 6, _ => rfl
  | 7, _ => rfl
  | 8, _ => rfl
  | 9, _ => rfl
  | 10, _ => rfl
  | 11, _ => rfl
  | 12, _ => rfl
  | 13, _ => rfl
  | 14, _ => rfl
  | 15, _ => rfl
  | 16, _ => rfl
  | 17, _ => rfl
  | 18, _ => rfl
  | 19, _ => rfl
  | i + 20, h => absurd h (by omega)
set_option maxRecDepth 100000 in
theorem r_63 (σ : Sg) : ∀ (i : Nat), i < 20 → (WW σ)[64 + i]? = some (.inl (0, 8, .inl (σ.2.2.1 (64 + i))))
  | 0, _ => rfl
  | 1, _ => rfl
  | 2, _ => rfl
  | 3, _ => rfl
  | 4, _ => rfl
  | 5, _ => rfl
  | 6, _ => rfl
  | 7, _ => rfl
  | 8, _ => rfl
  | 9, _ => rfl
  | 10, _ => rfl
  | 11, _ => rfl
  | 12, _ => rfl
  | 13, _ => rfl
  | 14, _ => rfl
  | 15, _ => rfl
  | 16, _ => rfl
  | 17, _ => rfl
  | 18, _ => rfl
  | 19, _ => rfl
  | i + 20, h => absurd h (by omega)
set_option maxRecDepth 100000 in
theorem ra_63 (σ : Sg) (f : Nat → Int32) : ∀ (i : Nat), i < 20 → (WW σ).set (64 + i) (.inl (0, 8, .inl f)) = WW (uA σ (64 + i) f)
  | 0, _ => rfl
  | 1, _ => rfl
  | 2, _ => rfl
  | 3, _ => rfl
  | 4, _ => rfl
  | 5, _ => rfl
  | 6, _ => rfl
  | 7, _ => rfl
  | 8, _ => rfl
  | 9, _ => rfl
  | 10, _ => rfl
  | 11, _ => rfl
  | 12, _ => rfl
  | 13, _ => rfl
  | 14, _ => rfl
  | 15, _ => rfl
  | 16, _ => rfl
  | 17, _ => rfl
  | 18, _ => rfl
  | 19, _ => rfl
  | i + 20, h => absurd h (by omega)
set_option maxRecDepth 100000 in
theorem r_95 (σ : Sg) : ∀ (i : Nat), i < 20 → (WW σ)[96 + i]? = some (.inl (0, 5, .inl (σ.2.2.1 (96 + i))))
  | 0, _ => rfl
  | 1, _ => rfl
  | 2, _ => rfl
  | 3, _ => rfl
  | 4, _ => rfl
  | 5, _ => rfl
  | 6, _ => rfl
  | 7, _ => rfl
  | 8, _ => rfl
  | 9, _ => rfl
  | 10, _ => rfl
  | 11, _ => rfl
  | 12, _ => rfl
  | 13, _ => rfl
  | 14, _ => rfl
  | 15, _ => rfl
  | 16, _ => rfl
  | 17, _ => rfl
  | 18, _ => rfl
  | 19, _ => rfl
  | i + 20, h => absurd h (by omega)
set_option maxRecDepth 100000 in
theorem ra_95 (σ : Sg) (f : Nat → Int32) : ∀ (i : Nat), i < 20 → (WW σ).set (96 + i) (.inl (0, 5, .inl f)) = WW (uA σ (96 + i) f)
  | 0, _ => rfl
  | 1, _ => rfl
  | 2, _ => rfl
  | 3, _ => rfl
  | 4, _ => rfl
  | 5, _ => rfl
  | 6, _ => rfl
  | 7, _ => rfl
  | 8, _ => rfl
  | 9, _ => rfl
  | 10, _ => rfl
  | 11, _ => rfl
  | 12, _ => rfl
  | 13, _ => rfl
  | 14, _ => rfl
  | 15, _ => rfl
  | 16, _ => rfl
  | 17, _ => rfl
  | 18, _ => rfl
  | 19, _ => rfl
  | i + 20, h => absurd h (by omega)
def I0 : Nat → Int32 := fun k => if k = 9 then 100 else if k = 112 then 999 else if k = 1204 then 2 else if k = 14012 then 2 else if k = 14013 then 999 else if k = 14014 then 100 else 0
def A0 : Nat → Nat → Int32 := fun k j => if k = 60 then (if j < 8 then 20000 else 0) else if k = 62 then (if j < 5 then 20000 else 0) else if k = 64 then (if j < 8 then 2 else 0) else if k = 65 then (if j < 8 then 2 else 0) else if k = 66 then (if j < 8 then 2 else 0) else if k = 67 then (if j < 8 then 2 else 0) else if k = 68 then (if j < 8 then 2 else 0) else if k = 69 then (if j < 8 then 2 else 0) else if k = 70 then (if j < 8 then 2 else 0) else if k = 71 then (if j < 8 then 2 else 0) else if k = 72 then (if j < 8 then 2 else 0) else if k = 73 then (if j < 8 then 2 else 0) else if k = 74 then (if j < 8 then 2 else 0) else if k = 75 then (if j < 8 then 2 else 0) else if k = 76 then (if j < 8 then 2 else 0) else if k = 77 then (if j < 8 then 2 else 0) else if k = 78 then (if j < 8 then 2 else 0) else if k = 79 then (if j < 8 then 2 else 0) else if k = 80 then (if j < 8 then 2 else 0) else if k = 81 then (if j < 8 then 2 else 0) else if k = 82 then (if j < 8 then 2 else 0) else if k = 83 then (if j < 8 then 2 else 0) else if k = 94 then (if j < 8 then 64 else 0) else if k = 157 then (if j < 8 then 20000 else 0) else if k = 160 then (if j < 5 then 20000 else 0) else if k = 167 then (if j < 8 then 64 else 0) else 0
def σ0 : Sg := (I0, fun _ => 0, A0, fun _ _ => 0, 126, 133)
