/-! rules for constructors: the place of what is made is named -/
def fil (v : Int32) (n : Nat) : Nat → Int32 := fun j => if j < n then v else 0
theorem fil_0 (v : Int32) : fil v 0 = fun _ => 0 := funext fun j => if_neg (Nat.not_lt_zero j)
theorem fil_s (v : Int32) (n : Nat) : upd (fil v n) n v = fil v (n + 1) := by
  funext j
  unfold upd fil
  by_cases h : j = n
  · subst h
    simp
  · by_cases h2 : j < n
    · simp [h, h2, Nat.lt_succ_of_lt h2]
    · simp [h, h2, show ¬ j < n + 1 by omega]
section CT
variable {G : vG} {l : Launch} {y : MethodName} {cc : ByteArray} {nL : Nat} {ret : Option FieldType} {d mc ms : Nat} {Q : Option Value → VW → Prop} {pc : Nat} {lv : List (Option Value)} {st : List Value} {w : VW} {k n : Nat}
theorem R_weq (w2 : VW) (h : w = w2) (kk : R G l y cc nL ret d mc ms Q pc lv st w2 k n) : R G l y cc nL ret d mc ms Q pc lv st w k n := by rw [h]; exact kk
theorem C_new {C : String} {T : u_T} {ty : Nat → FieldType} {N ci index : Nat} {fs : List Value} (p : Nat) (hp : w.length = p) (hc : vwCl[ci]? = some (C, T, N)) (hin : ∀ w ∈ u_ws C T N, w ∈ TW) (hty : ∀ k, k < N → parseFieldDescriptor (T k).2.2.1 = some (ty k)) (hcl : Cond.classLink y.cls index C ∈ TW) (hinst : Cond.instantiable C N ∈ TW) (hini : Cond.initialized C ∈ TW)
    (hfs : ∀ j, j < N → defaultValue (ty j) = vp_V fs j) (hfr : fs.map (tv G) = fs) (hlt : p < 1000000) (hk : k + 1 ≤ mc) (hn : n + N ≤ ms) (hdg : decode cc pc = .ok (.new index, 3))
    (kk : R G l y cc nL ret d mc ms Q (pc + 3) lv (.ref p :: st) (w ++ [.inr (ci, fs)]) (k + 1) (n + N)) : R G l y cc nL ret d mc ms Q pc lv st w k n := by
  subst hp
  exact R_new hc hin hty hcl hinst hini hfs hfr hlt hk hn hdg kk
theorem C_newI {x : Int32} {N' : Nat} (p : Nat) (hp : w.length = p) (hx : ¬ x < 0) (hN : x.toNatClampNeg = N') (hbytes : N' * 4 ≤ 536870912) (hlt : p < 1000000) (hk : k + 1 ≤ mc) (hn : n + N' ≤ ms) (hdg : decode cc pc = .ok (.newarray .int, 2))
    (kk : R G l y cc nL ret d mc ms Q (pc + 2) lv (.ref p :: st) (w ++ [.inl (0, N', .inl (fun _ => 0))]) (k + 1) (n + N')) : R G l y cc nL ret d mc ms Q pc lv (.int x :: st) w k n := by
  subst hp
  exact R_newI hx hN hbytes hlt hk hn hdg kk
theorem C_newJ {x : Int32} {N' : Nat} (p : Nat) (hp : w.length = p) (hx : ¬ x < 0) (hN : x.toNatClampNeg = N') (hbytes : N' * 8 ≤ 536870912) (hlt : p < 1000000) (hk : k + 1 ≤ mc) (hn : n + N' ≤ ms) (hdg : decode cc pc = .ok (.newarray .long, 2))
    (kk : R G l y cc nL ret d mc ms Q (pc + 2) lv (.ref p :: st) (w ++ [.inl (1, N', .inr (.inl (fun _ => 0)))]) (k + 1) (n + N')) : R G l y cc nL ret d mc ms Q pc lv (.int x :: st) w k n := by
  subst hp
  exact R_newJ hx hN hbytes hlt hk hn hdg kk
theorem C_newZ {x : Int32} {N' : Nat} (p : Nat) (hp : w.length = p) (hx : ¬ x < 0) (hN : x.toNatClampNeg = N') (hbytes : N' * 1 ≤ 536870912) (hlt : p < 1000000) (hk : k + 1 ≤ mc) (hn : n + N' ≤ ms) (hdg : decode cc pc = .ok (.newarray .boolean, 2))
    (kk : R G l y cc nL ret d mc ms Q (pc + 2) lv (.ref p :: st) (w ++ [.inl (2, N', .inl (fun _ => 0))]) (k + 1) (n + N')) : R G l y cc nL ret d mc ms Q pc lv (.int x :: st) w k n := by
  subst hp
  exact R_newZ hx hN hbytes hlt hk hn hdg kk
theorem C_mna {index : Nat} {x z : Int32} {N K : Nat} (p : Nat) (hp : w.length = p) (w2 : VW) (hcl : Cond.classLink y.cls index "[[I" ∈ TW) (hN : x.toNatClampNeg = N) (hK : z.toNatClampNeg = K) (hx : ¬ x < 0) (hz : ¬ z < 0) (hb1 : N * 4 ≤ 536870912) (hb2 : K * 4 ≤ 536870912) (hlt : p + N < 1000000) (hk : k + 1 + N ≤ mc) (hn : n + N + N * K ≤ ms) (hdg : decode cc pc = .ok (.multianewarray index 2, 4))
    (hw : w ++ .inl (3, N, .inr (.inr (.inr (.inr (fun i => if i < N then some (p + 1 + i) else none))))) :: List.replicate N (.inl (0, K, .inl (fun _ => 0))) = w2) (kk : R G l y cc nL ret d mc ms Q (pc + 4) lv (.ref p :: st) w2 (k + 1 + N) (n + N + N * K)) : R G l y cc nL ret d mc ms Q pc lv (.int z :: .int x :: st) w k n := by
  subst hp
  exact R_mna hcl hN hK hx hz hb1 hb2 hlt hk hn hdg (by rw [hw]; exact kk)
end CT

set_option maxRecDepth 100000 in
theorem wcl_18 : Cond.classLink "ViewCardsLaw" 7 RX8 ∈ TW := TW_t1 18 rfl rfl
set_option maxRecDepth 100000 in
theorem wcl_26 : Cond.classLink RX8 7 RX0 ∈ TW := TW_t1 26 rfl rfl
set_option maxRecDepth 100000 in
theorem wcl_98 : Cond.classLink RX8 16 RX3 ∈ TW := TW_t1 98 rfl rfl
set_option maxRecDepth 100000 in
theorem wcl_104 : Cond.classLink RX3 9 "[[I" ∈ TW := TW_t1 104 rfl rfl
set_option maxRecDepth 100000 in
theorem wcl_125 : Cond.classLink RX8 25 RX5 ∈ TW := TW_t1 125 rfl rfl
set_option maxRecDepth 100000 in
theorem wcl_151 : Cond.classLink RX8 32 RX1 ∈ TW := TW_t1 151 rfl rfl
set_option maxRecDepth 100000 in
theorem wcl_157 : Cond.classLink RX1 24 "[[I" ∈ TW := TW_t1 157 rfl rfl
set_option maxRecDepth 100000 in
theorem wcl_158 : Cond.classLink RX1 35 RX7 ∈ TW := TW_t1 158 rfl rfl
set_option maxRecDepth 100000 in
theorem wcl_230 : Cond.classLink RX8 41 RX2 ∈ TW := TW_t1 230 rfl rfl
set_option maxRecDepth 100000 in
theorem wcl_236 : Cond.classLink RX2 15 "[[I" ∈ TW := TW_t1 236 rfl rfl
set_option maxRecDepth 100000 in
theorem wcl_254 : Cond.classLink RX8 48 RX6 ∈ TW := TW_t2 14 rfl rfl
set_option maxRecDepth 100000 in
theorem wcl_278 : Cond.classLink RX8 55 RX4 ∈ TW := TW_t2 38 rfl rfl
set_option maxRecDepth 100000 in
theorem wcl_828 : Cond.classLink "ViewCardsLaw" 10 RX9 ∈ TW := TW_t4 108 rfl rfl
set_option maxRecDepth 100000 in
theorem wini_X8 : Cond.initialized RX8 ∈ TW := TW_t1 1 rfl rfl
set_option maxRecDepth 100000 in
theorem wini_X0 : Cond.initialized RX0 ∈ TW := TW_t1 2 rfl rfl
set_option maxRecDepth 100000 in
theorem wini_X3 : Cond.initialized RX3 ∈ TW := TW_t1 3 rfl rfl
set_option maxRecDepth 100000 in
theorem wini_X5 : Cond.initialized RX5 ∈ TW := TW_t1 4 rfl rfl
set_option maxRecDepth 100000 in
theorem wini_X1 : Cond.initialized RX1 ∈ TW := TW_t1 5 rfl rfl
set_option maxRecDepth 100000 in
theorem wini_X7 : Cond.initialized RX7 ∈ TW := TW_t1 6 rfl rfl
set_option maxRecDepth 100000 in
theorem wini_X2 : Cond.initialized RX2 ∈ TW := TW_t1 7 rfl rfl
set_option maxRecDepth 100000 in
theorem wini_X6 : Cond.initialized RX6 ∈ TW := TW_t1 8 rfl rfl
set_option maxRecDepth 100000 in
theorem wini_X4 : Cond.initialized RX4 ∈ TW := TW_t1 9 rfl rfl
set_option maxRecDepth 100000 in
theorem wini_X9 : Cond.initialized RX9 ∈ TW := TW_t1 10 rfl rfl
set_option maxRecDepth 100000 in
theorem wini_J9 : Cond.initialized RJ9 ∈ TW := TW_t1 11 rfl rfl
set_option maxRecDepth 100000 in
theorem wini_J13 : Cond.initialized RJ13 ∈ TW := TW_t1 12 rfl rfl
set_option maxRecDepth 100000 in
theorem wini_J6 : Cond.initialized RJ6 ∈ TW := TW_t1 13 rfl rfl
set_option maxRecDepth 100000 in
theorem wini_J0 : Cond.initialized RJ0 ∈ TW := TW_t1 14 rfl rfl
set_option maxRecDepth 100000 in
theorem wini_J1 : Cond.initialized RJ1 ∈ TW := TW_t1 15 rfl rfl
set_option maxRecDepth 100000 in
theorem wini_J3 : Cond.initialized RJ3 ∈ TW := TW_t1 16 rfl rfl
set_option maxRecDepth 100000 in
theorem wini_J2 : Cond.initialized RJ2 ∈ TW := TW_t1 17 rfl rfl
set_option maxRecDepth 100000 in
theorem wins_X8 : Cond.instantiable RX8 10 ∈ TW := TW_t1 19 rfl rfl
set_option maxRecDepth 100000 in
theorem wins_X0 : Cond.instantiable RX0 13 ∈ TW := TW_t1 27 rfl rfl
set_option maxRecDepth 100000 in
theorem wins_X3 : Cond.instantiable RX3 5 ∈ TW := TW_t1 99 rfl rfl
set_option maxRecDepth 100000 in
theorem wins_X5 : Cond.instantiable RX5 5 ∈ TW := TW_t1 126 rfl rfl
set_option maxRecDepth 100000 in
theorem wins_X1 : Cond.instantiable RX1 13 ∈ TW := TW_t1 152 rfl rfl
set_option maxRecDepth 100000 in
theorem wins_X7 : Cond.instantiable RX7 3 ∈ TW := TW_t1 159 rfl rfl
set_option maxRecDepth 100000 in
theorem wins_X2 : Cond.instantiable RX2 4 ∈ TW := TW_t1 231 rfl rfl
set_option maxRecDepth 100000 in
theorem wins_X6 : Cond.instantiable RX6 5 ∈ TW := TW_t2 15 rfl rfl
set_option maxRecDepth 100000 in
theorem wins_X4 : Cond.instantiable RX4 7 ∈ TW := TW_t2 39 rfl rfl
set_option maxRecDepth 100000 in
theorem wins_X9 : Cond.instantiable RX9 49 ∈ TW := TW_t4 109 rfl rfl
theorem dX0_init_0 : decode cX0_init 0 = .ok (.aload_n 0, 1) := by decide +kernel
theorem dX0_init_1 : decode cX0_init 1 = .ok (.invokespecial 3, 3) := by decide +kernel
theorem dX0_init_4 : decode cX0_init 4 = .ok (.aload_n 0, 1) := by decide +kernel
theorem dX0_init_5 : decode cX0_init 5 = .ok (.bipush 20, 2) := by decide +kernel
theorem dX0_init_7 : decode cX0_init 7 = .ok (.newarray .int, 2) := by decide +kernel
theorem dX0_init_9 : decode cX0_init 9 = .ok (.putfield 9, 3) := by decide +kernel
theorem dX0_init_12 : decode cX0_init 12 = .ok (.aload_n 0, 1) := by decide +kernel
theorem dX0_init_13 : decode cX0_init 13 = .ok (.bipush 20, 2) := by decide +kernel
theorem dX0_init_15 : decode cX0_init 15 = .ok (.newarray .int, 2) := by decide +kernel
theorem dX0_init_17 : decode cX0_init 17 = .ok (.putfield 15, 3) := by decide +kernel
theorem dX0_init_20 : decode cX0_init 20 = .ok (.aload_n 0, 1) := by decide +kernel
theorem dX0_init_21 : decode cX0_init 21 = .ok (.bipush 20, 2) := by decide +kernel
theorem dX0_init_23 : decode cX0_init 23 = .ok (.newarray .int, 2) := by decide +kernel
theorem dX0_init_25 : decode cX0_init 25 = .ok (.putfield 18, 3) := by decide +kernel
theorem dX0_init_28 : decode cX0_init 28 = .ok (.aload_n 0, 1) := by decide +kernel
theorem dX0_init_29 : decode cX0_init 29 = .ok (.bipush 20, 2) := by decide +kernel
theorem dX0_init_31 : decode cX0_init 31 = .ok (.newarray .int, 2) := by decide +kernel
theorem dX0_init_33 : decode cX0_init 33 = .ok (.putfield 21, 3) := by decide +kernel
theorem dX0_init_36 : decode cX0_init 36 = .ok (.aload_n 0, 1) := by decide +kernel
theorem dX0_init_37 : decode cX0_init 37 = .ok (.bipush 20, 2) := by decide +kernel
theorem dX0_init_39 : decode cX0_init 39 = .ok (.newarray .long, 2) := by decide +kernel
theorem dX0_init_41 : decode cX0_init 41 = .ok (.putfield 24, 3) := by decide +kernel
theorem dX0_init_44 : decode cX0_init 44 = .ok (.aload_n 0, 1) := by decide +kernel
theorem dX0_init_45 : decode cX0_init 45 = .ok (.bipush 20, 2) := by decide +kernel
theorem dX0_init_47 : decode cX0_init 47 = .ok (.newarray .int, 2) := by decide +kernel
theorem dX0_init_49 : decode cX0_init 49 = .ok (.putfield 28, 3) := by decide +kernel
theorem dX0_init_52 : decode cX0_init 52 = .ok (.aload_n 0, 1) := by decide +kernel
theorem dX0_init_53 : decode cX0_init 53 = .ok (.bipush 20, 2) := by decide +kernel
theorem dX0_init_55 : decode cX0_init 55 = .ok (.newarray .int, 2) := by decide +kernel
theorem dX0_init_57 : decode cX0_init 57 = .ok (.putfield 31, 3) := by decide +kernel
theorem dX0_init_60 : decode cX0_init 60 = .ok (.aload_n 0, 1) := by decide +kernel
theorem dX0_init_61 : decode cX0_init 61 = .ok (.bipush 20, 2) := by decide +kernel
theorem dX0_init_63 : decode cX0_init 63 = .ok (.newarray .int, 2) := by decide +kernel
theorem dX0_init_65 : decode cX0_init 65 = .ok (.putfield 34, 3) := by decide +kernel
theorem dX0_init_68 : decode cX0_init 68 = .ok (.aload_n 0, 1) := by decide +kernel
theorem dX0_init_69 : decode cX0_init 69 = .ok (.bipush 20, 2) := by decide +kernel
theorem dX0_init_71 : decode cX0_init 71 = .ok (.newarray .long, 2) := by decide +kernel
theorem dX0_init_73 : decode cX0_init 73 = .ok (.putfield 37, 3) := by decide +kernel
theorem dX0_init_76 : decode cX0_init 76 = .ok (.aload_n 0, 1) := by decide +kernel
theorem dX0_init_77 : decode cX0_init 77 = .ok (.bipush 20, 2) := by decide +kernel
theorem dX0_init_79 : decode cX0_init 79 = .ok (.newarray .int, 2) := by decide +kernel
theorem dX0_init_81 : decode cX0_init 81 = .ok (.putfield 40, 3) := by decide +kernel
theorem dX0_init_84 : decode cX0_init 84 = .ok (.aload_n 0, 1) := by decide +kernel
theorem dX0_init_85 : decode cX0_init 85 = .ok (.sipush 999, 3) := by decide +kernel
theorem dX0_init_88 : decode cX0_init 88 = .ok (.putfield 43, 3) := by decide +kernel
theorem dX0_init_91 : decode cX0_init 91 = .ok (.return_, 1) := by decide +kernel
theorem dX1_init_0 : decode cX1_init 0 = .ok (.aload_n 0, 1) := by decide +kernel
theorem dX1_init_1 : decode cX1_init 1 = .ok (.invokespecial 3, 3) := by decide +kernel
theorem dX1_init_4 : decode cX1_init 4 = .ok (.aload_n 0, 1) := by decide +kernel
theorem dX1_init_5 : decode cX1_init 5 = .ok (.bipush 8, 2) := by decide +kernel
theorem dX1_init_7 : decode cX1_init 7 = .ok (.newarray .int, 2) := by decide +kernel
theorem dX1_init_9 : decode cX1_init 9 = .ok (.putfield 9, 3) := by decide +kernel
theorem dX1_init_12 : decode cX1_init 12 = .ok (.aload_n 0, 1) := by decide +kernel
theorem dX1_init_13 : decode cX1_init 13 = .ok (.bipush 8, 2) := by decide +kernel
theorem dX1_init_15 : decode cX1_init 15 = .ok (.newarray .int, 2) := by decide +kernel
theorem dX1_init_17 : decode cX1_init 17 = .ok (.putfield 15, 3) := by decide +kernel
theorem dX1_init_20 : decode cX1_init 20 = .ok (.aload_n 0, 1) := by decide +kernel
theorem dX1_init_21 : decode cX1_init 21 = .ok (.iconst 5, 1) := by decide +kernel
theorem dX1_init_22 : decode cX1_init 22 = .ok (.newarray .int, 2) := by decide +kernel
theorem dX1_init_24 : decode cX1_init 24 = .ok (.putfield 18, 3) := by decide +kernel
theorem dX1_init_27 : decode cX1_init 27 = .ok (.aload_n 0, 1) := by decide +kernel
theorem dX1_init_28 : decode cX1_init 28 = .ok (.iconst 5, 1) := by decide +kernel
theorem dX1_init_29 : decode cX1_init 29 = .ok (.newarray .int, 2) := by decide +kernel
theorem dX1_init_31 : decode cX1_init 31 = .ok (.putfield 21, 3) := by decide +kernel
theorem dX1_init_34 : decode cX1_init 34 = .ok (.aload_n 0, 1) := by decide +kernel
theorem dX1_init_35 : decode cX1_init 35 = .ok (.bipush 20, 2) := by decide +kernel
theorem dX1_init_37 : decode cX1_init 37 = .ok (.bipush 8, 2) := by decide +kernel
theorem dX1_init_39 : decode cX1_init 39 = .ok (.multianewarray 24 2, 4) := by decide +kernel
theorem dX1_init_43 : decode cX1_init 43 = .ok (.putfield 26, 3) := by decide +kernel
theorem dX1_init_46 : decode cX1_init 46 = .ok (.aload_n 0, 1) := by decide +kernel
theorem dX1_init_47 : decode cX1_init 47 = .ok (.bipush 12, 2) := by decide +kernel
theorem dX1_init_49 : decode cX1_init 49 = .ok (.newarray .int, 2) := by decide +kernel
theorem dX1_init_51 : decode cX1_init 51 = .ok (.putfield 29, 3) := by decide +kernel
theorem dX1_init_54 : decode cX1_init 54 = .ok (.aload_n 0, 1) := by decide +kernel
theorem dX1_init_55 : decode cX1_init 55 = .ok (.bipush 12, 2) := by decide +kernel
theorem dX1_init_57 : decode cX1_init 57 = .ok (.newarray .int, 2) := by decide +kernel
theorem dX1_init_59 : decode cX1_init 59 = .ok (.putfield 32, 3) := by decide +kernel
theorem dX1_init_62 : decode cX1_init 62 = .ok (.aload_n 0, 1) := by decide +kernel
theorem dX1_init_63 : decode cX1_init 63 = .ok (.new 35, 3) := by decide +kernel
theorem dX1_init_66 : decode cX1_init 66 = .ok (.dup, 1) := by decide +kernel
theorem dX1_init_67 : decode cX1_init 67 = .ok (.invokespecial 37, 3) := by decide +kernel
theorem dX1_init_70 : decode cX1_init 70 = .ok (.putfield 38, 3) := by decide +kernel
theorem dX1_init_73 : decode cX1_init 73 = .ok (.aload_n 0, 1) := by decide +kernel
theorem dX1_init_74 : decode cX1_init 74 = .ok (.new 35, 3) := by decide +kernel
theorem dX1_init_77 : decode cX1_init 77 = .ok (.dup, 1) := by decide +kernel
theorem dX1_init_78 : decode cX1_init 78 = .ok (.invokespecial 37, 3) := by decide +kernel
theorem dX1_init_81 : decode cX1_init 81 = .ok (.putfield 42, 3) := by decide +kernel
theorem dX1_init_84 : decode cX1_init 84 = .ok (.aload_n 0, 1) := by decide +kernel
theorem dX1_init_85 : decode cX1_init 85 = .ok (.bipush 20, 2) := by decide +kernel
theorem dX1_init_87 : decode cX1_init 87 = .ok (.newarray .int, 2) := by decide +kernel
theorem dX1_init_89 : decode cX1_init 89 = .ok (.putfield 45, 3) := by decide +kernel
theorem dX1_init_92 : decode cX1_init 92 = .ok (.aload_n 0, 1) := by decide +kernel
theorem dX1_init_93 : decode cX1_init 93 = .ok (.aload_n 1, 1) := by decide +kernel
theorem dX1_init_94 : decode cX1_init 94 = .ok (.putfield 48, 3) := by decide +kernel
theorem dX1_init_97 : decode cX1_init 97 = .ok (.aload_n 0, 1) := by decide +kernel
theorem dX1_init_98 : decode cX1_init 98 = .ok (.aload_n 2, 1) := by decide +kernel
theorem dX1_init_99 : decode cX1_init 99 = .ok (.putfield 52, 3) := by decide +kernel
theorem dX1_init_102 : decode cX1_init 102 = .ok (.iconst 0, 1) := by decide +kernel
theorem dX1_init_103 : decode cX1_init 103 = .ok (.istore_n 3, 1) := by decide +kernel
theorem dX1_init_104 : decode cX1_init 104 = .ok (.iload_n 3, 1) := by decide +kernel
theorem dX1_init_105 : decode cX1_init 105 = .ok (.bipush 8, 2) := by decide +kernel
theorem dX1_init_107 : decode cX1_init 107 = .ok (.if_icmp .ge 18, 3) := by decide +kernel
theorem dX1_init_110 : decode cX1_init 110 = .ok (.aload_n 0, 1) := by decide +kernel
theorem dX1_init_111 : decode cX1_init 111 = .ok (.getfield 15, 3) := by decide +kernel
theorem dX1_init_114 : decode cX1_init 114 = .ok (.iload_n 3, 1) := by decide +kernel
theorem dX1_init_115 : decode cX1_init 115 = .ok (.sipush 20000, 3) := by decide +kernel
theorem dX1_init_118 : decode cX1_init 118 = .ok (.iastore, 1) := by decide +kernel
theorem dX1_init_119 : decode cX1_init 119 = .ok (.iinc 3 1, 3) := by decide +kernel
theorem dX1_init_122 : decode cX1_init 122 = .ok (.goto (-18), 3) := by decide +kernel
theorem dX1_init_125 : decode cX1_init 125 = .ok (.iconst 0, 1) := by decide +kernel
theorem dX1_init_126 : decode cX1_init 126 = .ok (.istore_n 3, 1) := by decide +kernel
theorem dX1_init_127 : decode cX1_init 127 = .ok (.iload_n 3, 1) := by decide +kernel
theorem dX1_init_128 : decode cX1_init 128 = .ok (.iconst 5, 1) := by decide +kernel
theorem dX1_init_129 : decode cX1_init 129 = .ok (.if_icmp .ge 18, 3) := by decide +kernel
theorem dX1_init_132 : decode cX1_init 132 = .ok (.aload_n 0, 1) := by decide +kernel
theorem dX1_init_133 : decode cX1_init 133 = .ok (.getfield 21, 3) := by decide +kernel
theorem dX1_init_136 : decode cX1_init 136 = .ok (.iload_n 3, 1) := by decide +kernel
theorem dX1_init_137 : decode cX1_init 137 = .ok (.sipush 20000, 3) := by decide +kernel
theorem dX1_init_140 : decode cX1_init 140 = .ok (.iastore, 1) := by decide +kernel
theorem dX1_init_141 : decode cX1_init 141 = .ok (.iinc 3 1, 3) := by decide +kernel
theorem dX1_init_144 : decode cX1_init 144 = .ok (.goto (-17), 3) := by decide +kernel
theorem dX1_init_147 : decode cX1_init 147 = .ok (.iconst 0, 1) := by decide +kernel
theorem dX1_init_148 : decode cX1_init 148 = .ok (.istore_n 3, 1) := by decide +kernel
theorem dX1_init_149 : decode cX1_init 149 = .ok (.iload_n 3, 1) := by decide +kernel
theorem dX1_init_150 : decode cX1_init 150 = .ok (.bipush 20, 2) := by decide +kernel
theorem dX1_init_152 : decode cX1_init 152 = .ok (.if_icmp .ge 35, 3) := by decide +kernel
theorem dX1_init_155 : decode cX1_init 155 = .ok (.iconst 0, 1) := by decide +kernel
theorem dX1_init_156 : decode cX1_init 156 = .ok (.istore 4, 2) := by decide +kernel
theorem dX1_init_158 : decode cX1_init 158 = .ok (.iload 4, 2) := by decide +kernel
theorem dX1_init_160 : decode cX1_init 160 = .ok (.bipush 8, 2) := by decide +kernel
theorem dX1_init_162 : decode cX1_init 162 = .ok (.if_icmp .ge 19, 3) := by decide +kernel
theorem dX1_init_165 : decode cX1_init 165 = .ok (.aload_n 0, 1) := by decide +kernel
theorem dX1_init_166 : decode cX1_init 166 = .ok (.getfield 26, 3) := by decide +kernel
theorem dX1_init_169 : decode cX1_init 169 = .ok (.iload_n 3, 1) := by decide +kernel
theorem dX1_init_170 : decode cX1_init 170 = .ok (.aaload, 1) := by decide +kernel
theorem dX1_init_171 : decode cX1_init 171 = .ok (.iload 4, 2) := by decide +kernel
theorem dX1_init_173 : decode cX1_init 173 = .ok (.iconst 2, 1) := by decide +kernel
theorem dX1_init_174 : decode cX1_init 174 = .ok (.iastore, 1) := by decide +kernel
theorem dX1_init_175 : decode cX1_init 175 = .ok (.iinc 4 1, 3) := by decide +kernel
theorem dX1_init_178 : decode cX1_init 178 = .ok (.goto (-20), 3) := by decide +kernel
theorem dX1_init_181 : decode cX1_init 181 = .ok (.iinc 3 1, 3) := by decide +kernel
theorem dX1_init_184 : decode cX1_init 184 = .ok (.goto (-35), 3) := by decide +kernel
theorem dX1_init_187 : decode cX1_init 187 = .ok (.return_, 1) := by decide +kernel
theorem dX2_init_0 : decode cX2_init 0 = .ok (.aload_n 0, 1) := by decide +kernel
theorem dX2_init_1 : decode cX2_init 1 = .ok (.invokespecial 3, 3) := by decide +kernel
theorem dX2_init_4 : decode cX2_init 4 = .ok (.aload_n 0, 1) := by decide +kernel
theorem dX2_init_5 : decode cX2_init 5 = .ok (.bipush 8, 2) := by decide +kernel
theorem dX2_init_7 : decode cX2_init 7 = .ok (.newarray .int, 2) := by decide +kernel
theorem dX2_init_9 : decode cX2_init 9 = .ok (.putfield 9, 3) := by decide +kernel
theorem dX2_init_12 : decode cX2_init 12 = .ok (.aload_n 0, 1) := by decide +kernel
theorem dX2_init_13 : decode cX2_init 13 = .ok (.bipush 20, 2) := by decide +kernel
theorem dX2_init_15 : decode cX2_init 15 = .ok (.iconst 5, 1) := by decide +kernel
theorem dX2_init_16 : decode cX2_init 16 = .ok (.multianewarray 15 2, 4) := by decide +kernel
theorem dX2_init_20 : decode cX2_init 20 = .ok (.putfield 17, 3) := by decide +kernel
theorem dX2_init_23 : decode cX2_init 23 = .ok (.aload_n 0, 1) := by decide +kernel
theorem dX2_init_24 : decode cX2_init 24 = .ok (.bipush 20, 2) := by decide +kernel
theorem dX2_init_26 : decode cX2_init 26 = .ok (.newarray .int, 2) := by decide +kernel
theorem dX2_init_28 : decode cX2_init 28 = .ok (.putfield 20, 3) := by decide +kernel
theorem dX2_init_31 : decode cX2_init 31 = .ok (.iconst 0, 1) := by decide +kernel
theorem dX2_init_32 : decode cX2_init 32 = .ok (.istore_n 1, 1) := by decide +kernel
theorem dX2_init_33 : decode cX2_init 33 = .ok (.iload_n 1, 1) := by decide +kernel
theorem dX2_init_34 : decode cX2_init 34 = .ok (.bipush 8, 2) := by decide +kernel
theorem dX2_init_36 : decode cX2_init 36 = .ok (.if_icmp .ge 17, 3) := by decide +kernel
theorem dX2_init_39 : decode cX2_init 39 = .ok (.aload_n 0, 1) := by decide +kernel
theorem dX2_init_40 : decode cX2_init 40 = .ok (.getfield 9, 3) := by decide +kernel
theorem dX2_init_43 : decode cX2_init 43 = .ok (.iload_n 1, 1) := by decide +kernel
theorem dX2_init_44 : decode cX2_init 44 = .ok (.bipush 64, 2) := by decide +kernel
theorem dX2_init_46 : decode cX2_init 46 = .ok (.iastore, 1) := by decide +kernel
theorem dX2_init_47 : decode cX2_init 47 = .ok (.iinc 1 1, 3) := by decide +kernel
theorem dX2_init_50 : decode cX2_init 50 = .ok (.goto (-17), 3) := by decide +kernel
theorem dX2_init_53 : decode cX2_init 53 = .ok (.return_, 1) := by decide +kernel
theorem dX3_init_0 : decode cX3_init 0 = .ok (.aload_n 0, 1) := by decide +kernel
theorem dX3_init_1 : decode cX3_init 1 = .ok (.invokespecial 3, 3) := by decide +kernel
theorem dX3_init_4 : decode cX3_init 4 = .ok (.aload_n 0, 1) := by decide +kernel
theorem dX3_init_5 : decode cX3_init 5 = .ok (.bipush 20, 2) := by decide +kernel
theorem dX3_init_7 : decode cX3_init 7 = .ok (.bipush 20, 2) := by decide +kernel
theorem dX3_init_9 : decode cX3_init 9 = .ok (.multianewarray 9 2, 4) := by decide +kernel
theorem dX3_init_13 : decode cX3_init 13 = .ok (.putfield 11, 3) := by decide +kernel
theorem dX3_init_16 : decode cX3_init 16 = .ok (.aload_n 0, 1) := by decide +kernel
theorem dX3_init_17 : decode cX3_init 17 = .ok (.bipush 20, 2) := by decide +kernel
theorem dX3_init_19 : decode cX3_init 19 = .ok (.bipush 20, 2) := by decide +kernel
theorem dX3_init_21 : decode cX3_init 21 = .ok (.multianewarray 9 2, 4) := by decide +kernel
theorem dX3_init_25 : decode cX3_init 25 = .ok (.putfield 16, 3) := by decide +kernel
theorem dX3_init_28 : decode cX3_init 28 = .ok (.aload_n 0, 1) := by decide +kernel
theorem dX3_init_29 : decode cX3_init 29 = .ok (.bipush 9, 2) := by decide +kernel
theorem dX3_init_31 : decode cX3_init 31 = .ok (.newarray .int, 2) := by decide +kernel
theorem dX3_init_33 : decode cX3_init 33 = .ok (.putfield 19, 3) := by decide +kernel
theorem dX3_init_36 : decode cX3_init 36 = .ok (.aload_n 0, 1) := by decide +kernel
theorem dX3_init_37 : decode cX3_init 37 = .ok (.iconst 2, 1) := by decide +kernel
theorem dX3_init_38 : decode cX3_init 38 = .ok (.putfield 23, 3) := by decide +kernel
theorem dX3_init_41 : decode cX3_init 41 = .ok (.aload_n 0, 1) := by decide +kernel
theorem dX3_init_42 : decode cX3_init 42 = .ok (.aload_n 1, 1) := by decide +kernel
theorem dX3_init_43 : decode cX3_init 43 = .ok (.putfield 27, 3) := by decide +kernel
theorem dX3_init_46 : decode cX3_init 46 = .ok (.return_, 1) := by decide +kernel
theorem dX4_init_0 : decode cX4_init 0 = .ok (.aload_n 0, 1) := by decide +kernel
theorem dX4_init_1 : decode cX4_init 1 = .ok (.invokespecial 3, 3) := by decide +kernel
theorem dX4_init_4 : decode cX4_init 4 = .ok (.aload_n 0, 1) := by decide +kernel
theorem dX4_init_5 : decode cX4_init 5 = .ok (.bipush 8, 2) := by decide +kernel
theorem dX4_init_7 : decode cX4_init 7 = .ok (.newarray .int, 2) := by decide +kernel
theorem dX4_init_9 : decode cX4_init 9 = .ok (.putfield 9, 3) := by decide +kernel
theorem dX4_init_12 : decode cX4_init 12 = .ok (.aload_n 0, 1) := by decide +kernel
theorem dX4_init_13 : decode cX4_init 13 = .ok (.bipush 8, 2) := by decide +kernel
theorem dX4_init_15 : decode cX4_init 15 = .ok (.newarray .int, 2) := by decide +kernel
theorem dX4_init_17 : decode cX4_init 17 = .ok (.putfield 15, 3) := by decide +kernel
theorem dX4_init_20 : decode cX4_init 20 = .ok (.aload_n 0, 1) := by decide +kernel
theorem dX4_init_21 : decode cX4_init 21 = .ok (.bipush 8, 2) := by decide +kernel
theorem dX4_init_23 : decode cX4_init 23 = .ok (.newarray .int, 2) := by decide +kernel
theorem dX4_init_25 : decode cX4_init 25 = .ok (.putfield 18, 3) := by decide +kernel
theorem dX4_init_28 : decode cX4_init 28 = .ok (.aload_n 0, 1) := by decide +kernel
theorem dX4_init_29 : decode cX4_init 29 = .ok (.bipush 8, 2) := by decide +kernel
theorem dX4_init_31 : decode cX4_init 31 = .ok (.newarray .boolean, 2) := by decide +kernel
theorem dX4_init_33 : decode cX4_init 33 = .ok (.putfield 21, 3) := by decide +kernel
theorem dX4_init_36 : decode cX4_init 36 = .ok (.aload_n 0, 1) := by decide +kernel
theorem dX4_init_37 : decode cX4_init 37 = .ok (.bipush 8, 2) := by decide +kernel
theorem dX4_init_39 : decode cX4_init 39 = .ok (.newarray .int, 2) := by decide +kernel
theorem dX4_init_41 : decode cX4_init 41 = .ok (.putfield 25, 3) := by decide +kernel
theorem dX4_init_44 : decode cX4_init 44 = .ok (.aload_n 0, 1) := by decide +kernel
theorem dX4_init_45 : decode cX4_init 45 = .ok (.bipush 8, 2) := by decide +kernel
theorem dX4_init_47 : decode cX4_init 47 = .ok (.newarray .int, 2) := by decide +kernel
theorem dX4_init_49 : decode cX4_init 49 = .ok (.putfield 28, 3) := by decide +kernel
theorem dX4_init_52 : decode cX4_init 52 = .ok (.return_, 1) := by decide +kernel
theorem dX5_init_0 : decode cX5_init 0 = .ok (.aload_n 0, 1) := by decide +kernel
theorem dX5_init_1 : decode cX5_init 1 = .ok (.invokespecial 3, 3) := by decide +kernel
theorem dX5_init_4 : decode cX5_init 4 = .ok (.aload_n 0, 1) := by decide +kernel
theorem dX5_init_5 : decode cX5_init 5 = .ok (.bipush 100, 2) := by decide +kernel
theorem dX5_init_7 : decode cX5_init 7 = .ok (.newarray .boolean, 2) := by decide +kernel
theorem dX5_init_9 : decode cX5_init 9 = .ok (.putfield 9, 3) := by decide +kernel
theorem dX5_init_12 : decode cX5_init 12 = .ok (.aload_n 0, 1) := by decide +kernel
theorem dX5_init_13 : decode cX5_init 13 = .ok (.aload_n 1, 1) := by decide +kernel
theorem dX5_init_14 : decode cX5_init 14 = .ok (.putfield 15, 3) := by decide +kernel
theorem dX5_init_17 : decode cX5_init 17 = .ok (.return_, 1) := by decide +kernel
theorem dX6_init_0 : decode cX6_init 0 = .ok (.aload_n 0, 1) := by decide +kernel
theorem dX6_init_1 : decode cX6_init 1 = .ok (.invokespecial 3, 3) := by decide +kernel
theorem dX6_init_4 : decode cX6_init 4 = .ok (.aload_n 0, 1) := by decide +kernel
theorem dX6_init_5 : decode cX6_init 5 = .ok (.sipush 160, 3) := by decide +kernel
theorem dX6_init_8 : decode cX6_init 8 = .ok (.newarray .int, 2) := by decide +kernel
theorem dX6_init_10 : decode cX6_init 10 = .ok (.putfield 9, 3) := by decide +kernel
theorem dX6_init_13 : decode cX6_init 13 = .ok (.return_, 1) := by decide +kernel
theorem dX7_init_0 : decode cX7_init 0 = .ok (.aload_n 0, 1) := by decide +kernel
theorem dX7_init_1 : decode cX7_init 1 = .ok (.invokespecial 3, 3) := by decide +kernel
theorem dX7_init_4 : decode cX7_init 4 = .ok (.aload_n 0, 1) := by decide +kernel
theorem dX7_init_5 : decode cX7_init 5 = .ok (.bipush 20, 2) := by decide +kernel
theorem dX7_init_7 : decode cX7_init 7 = .ok (.newarray .int, 2) := by decide +kernel
theorem dX7_init_9 : decode cX7_init 9 = .ok (.putfield 9, 3) := by decide +kernel
theorem dX7_init_12 : decode cX7_init 12 = .ok (.aload_n 0, 1) := by decide +kernel
theorem dX7_init_13 : decode cX7_init 13 = .ok (.bipush 20, 2) := by decide +kernel
theorem dX7_init_15 : decode cX7_init 15 = .ok (.newarray .int, 2) := by decide +kernel
theorem dX7_init_17 : decode cX7_init 17 = .ok (.putfield 15, 3) := by decide +kernel
theorem dX7_init_20 : decode cX7_init 20 = .ok (.return_, 1) := by decide +kernel
theorem dX8_init_0 : decode cX8_init 0 = .ok (.aload_n 0, 1) := by decide +kernel
theorem dX8_init_1 : decode cX8_init 1 = .ok (.invokespecial 1, 3) := by decide +kernel
theorem dX8_init_4 : decode cX8_init 4 = .ok (.aload_n 0, 1) := by decide +kernel
theorem dX8_init_5 : decode cX8_init 5 = .ok (.new 7, 3) := by decide +kernel
theorem dX8_init_8 : decode cX8_init 8 = .ok (.dup, 1) := by decide +kernel
theorem dX8_init_9 : decode cX8_init 9 = .ok (.invokespecial 9, 3) := by decide +kernel
theorem dX8_init_12 : decode cX8_init 12 = .ok (.putfield 10, 3) := by decide +kernel
theorem dX8_init_15 : decode cX8_init 15 = .ok (.aload_n 0, 1) := by decide +kernel
theorem dX8_init_16 : decode cX8_init 16 = .ok (.new 16, 3) := by decide +kernel
theorem dX8_init_19 : decode cX8_init 19 = .ok (.dup, 1) := by decide +kernel
theorem dX8_init_20 : decode cX8_init 20 = .ok (.aload_n 0, 1) := by decide +kernel
theorem dX8_init_21 : decode cX8_init 21 = .ok (.getfield 10, 3) := by decide +kernel
theorem dX8_init_24 : decode cX8_init 24 = .ok (.invokespecial 18, 3) := by decide +kernel
theorem dX8_init_27 : decode cX8_init 27 = .ok (.putfield 21, 3) := by decide +kernel
theorem dX8_init_30 : decode cX8_init 30 = .ok (.aload_n 0, 1) := by decide +kernel
theorem dX8_init_31 : decode cX8_init 31 = .ok (.new 25, 3) := by decide +kernel
theorem dX8_init_34 : decode cX8_init 34 = .ok (.dup, 1) := by decide +kernel
theorem dX8_init_35 : decode cX8_init 35 = .ok (.aload_n 0, 1) := by decide +kernel
theorem dX8_init_36 : decode cX8_init 36 = .ok (.getfield 10, 3) := by decide +kernel
theorem dX8_init_39 : decode cX8_init 39 = .ok (.invokespecial 27, 3) := by decide +kernel
theorem dX8_init_42 : decode cX8_init 42 = .ok (.putfield 28, 3) := by decide +kernel
theorem dX8_init_45 : decode cX8_init 45 = .ok (.aload_n 0, 1) := by decide +kernel
theorem dX8_init_46 : decode cX8_init 46 = .ok (.new 32, 3) := by decide +kernel
theorem dX8_init_49 : decode cX8_init 49 = .ok (.dup, 1) := by decide +kernel
theorem dX8_init_50 : decode cX8_init 50 = .ok (.aload_n 0, 1) := by decide +kernel
theorem dX8_init_51 : decode cX8_init 51 = .ok (.getfield 10, 3) := by decide +kernel
theorem dX8_init_54 : decode cX8_init 54 = .ok (.aload_n 0, 1) := by decide +kernel
theorem dX8_init_55 : decode cX8_init 55 = .ok (.getfield 21, 3) := by decide +kernel
theorem dX8_init_58 : decode cX8_init 58 = .ok (.invokespecial 34, 3) := by decide +kernel
theorem dX8_init_61 : decode cX8_init 61 = .ok (.putfield 37, 3) := by decide +kernel
theorem dX8_init_64 : decode cX8_init 64 = .ok (.aload_n 0, 1) := by decide +kernel
theorem dX8_init_65 : decode cX8_init 65 = .ok (.new 41, 3) := by decide +kernel
theorem dX8_init_68 : decode cX8_init 68 = .ok (.dup, 1) := by decide +kernel
theorem dX8_init_69 : decode cX8_init 69 = .ok (.invokespecial 43, 3) := by decide +kernel
theorem dX8_init_72 : decode cX8_init 72 = .ok (.putfield 44, 3) := by decide +kernel
theorem dX8_init_75 : decode cX8_init 75 = .ok (.aload_n 0, 1) := by decide +kernel
theorem dX8_init_76 : decode cX8_init 76 = .ok (.new 48, 3) := by decide +kernel
theorem dX8_init_79 : decode cX8_init 79 = .ok (.dup, 1) := by decide +kernel
theorem dX8_init_80 : decode cX8_init 80 = .ok (.invokespecial 50, 3) := by decide +kernel
theorem dX8_init_83 : decode cX8_init 83 = .ok (.putfield 51, 3) := by decide +kernel
theorem dX8_init_86 : decode cX8_init 86 = .ok (.aload_n 0, 1) := by decide +kernel
theorem dX8_init_87 : decode cX8_init 87 = .ok (.new 55, 3) := by decide +kernel
theorem dX8_init_90 : decode cX8_init 90 = .ok (.dup, 1) := by decide +kernel
theorem dX8_init_91 : decode cX8_init 91 = .ok (.invokespecial 57, 3) := by decide +kernel
theorem dX8_init_94 : decode cX8_init 94 = .ok (.putfield 58, 3) := by decide +kernel
theorem dX8_init_97 : decode cX8_init 97 = .ok (.aload_n 0, 1) := by decide +kernel
theorem dX8_init_98 : decode cX8_init 98 = .ok (.new 55, 3) := by decide +kernel
theorem dX8_init_101 : decode cX8_init 101 = .ok (.dup, 1) := by decide +kernel
theorem dX8_init_102 : decode cX8_init 102 = .ok (.invokespecial 57, 3) := by decide +kernel
theorem dX8_init_105 : decode cX8_init 105 = .ok (.putfield 62, 3) := by decide +kernel
theorem dX8_init_108 : decode cX8_init 108 = .ok (.aload_n 0, 1) := by decide +kernel
theorem dX8_init_109 : decode cX8_init 109 = .ok (.new 55, 3) := by decide +kernel
theorem dX8_init_112 : decode cX8_init 112 = .ok (.dup, 1) := by decide +kernel
theorem dX8_init_113 : decode cX8_init 113 = .ok (.invokespecial 57, 3) := by decide +kernel
theorem dX8_init_116 : decode cX8_init 116 = .ok (.putfield 65, 3) := by decide +kernel
theorem dX8_init_119 : decode cX8_init 119 = .ok (.aload_n 0, 1) := by decide +kernel
theorem dX8_init_120 : decode cX8_init 120 = .ok (.bipush 100, 2) := by decide +kernel
theorem dX8_init_122 : decode cX8_init 122 = .ok (.putfield 68, 3) := by decide +kernel
theorem dX8_init_125 : decode cX8_init 125 = .ok (.return_, 1) := by decide +kernel
theorem dX9_init_0 : decode cX9_init 0 = .ok (.aload_n 0, 1) := by decide +kernel
theorem dX9_init_1 : decode cX9_init 1 = .ok (.invokespecial 1, 3) := by decide +kernel
theorem dX9_init_4 : decode cX9_init 4 = .ok (.aload_n 0, 1) := by decide +kernel
theorem dX9_init_5 : decode cX9_init 5 = .ok (.bipush 20, 2) := by decide +kernel
theorem dX9_init_7 : decode cX9_init 7 = .ok (.newarray .int, 2) := by decide +kernel
theorem dX9_init_9 : decode cX9_init 9 = .ok (.putfield 7, 3) := by decide +kernel
theorem dX9_init_12 : decode cX9_init 12 = .ok (.aload_n 0, 1) := by decide +kernel
theorem dX9_init_13 : decode cX9_init 13 = .ok (.bipush 20, 2) := by decide +kernel
theorem dX9_init_15 : decode cX9_init 15 = .ok (.newarray .int, 2) := by decide +kernel
theorem dX9_init_17 : decode cX9_init 17 = .ok (.putfield 13, 3) := by decide +kernel
theorem dX9_init_20 : decode cX9_init 20 = .ok (.aload_n 0, 1) := by decide +kernel
theorem dX9_init_21 : decode cX9_init 21 = .ok (.bipush 20, 2) := by decide +kernel
theorem dX9_init_23 : decode cX9_init 23 = .ok (.newarray .int, 2) := by decide +kernel
theorem dX9_init_25 : decode cX9_init 25 = .ok (.putfield 16, 3) := by decide +kernel
theorem dX9_init_28 : decode cX9_init 28 = .ok (.aload_n 0, 1) := by decide +kernel
theorem dX9_init_29 : decode cX9_init 29 = .ok (.bipush 20, 2) := by decide +kernel
theorem dX9_init_31 : decode cX9_init 31 = .ok (.newarray .int, 2) := by decide +kernel
theorem dX9_init_33 : decode cX9_init 33 = .ok (.putfield 19, 3) := by decide +kernel
theorem dX9_init_36 : decode cX9_init 36 = .ok (.aload_n 0, 1) := by decide +kernel
theorem dX9_init_37 : decode cX9_init 37 = .ok (.bipush 20, 2) := by decide +kernel
theorem dX9_init_39 : decode cX9_init 39 = .ok (.newarray .long, 2) := by decide +kernel
theorem dX9_init_41 : decode cX9_init 41 = .ok (.putfield 22, 3) := by decide +kernel
theorem dX9_init_44 : decode cX9_init 44 = .ok (.aload_n 0, 1) := by decide +kernel
theorem dX9_init_45 : decode cX9_init 45 = .ok (.bipush 20, 2) := by decide +kernel
theorem dX9_init_47 : decode cX9_init 47 = .ok (.newarray .int, 2) := by decide +kernel
theorem dX9_init_49 : decode cX9_init 49 = .ok (.putfield 26, 3) := by decide +kernel
theorem dX9_init_52 : decode cX9_init 52 = .ok (.aload_n 0, 1) := by decide +kernel
theorem dX9_init_53 : decode cX9_init 53 = .ok (.bipush 20, 2) := by decide +kernel
theorem dX9_init_55 : decode cX9_init 55 = .ok (.newarray .int, 2) := by decide +kernel
theorem dX9_init_57 : decode cX9_init 57 = .ok (.putfield 29, 3) := by decide +kernel
theorem dX9_init_60 : decode cX9_init 60 = .ok (.aload_n 0, 1) := by decide +kernel
theorem dX9_init_61 : decode cX9_init 61 = .ok (.bipush 20, 2) := by decide +kernel
theorem dX9_init_63 : decode cX9_init 63 = .ok (.newarray .int, 2) := by decide +kernel
theorem dX9_init_65 : decode cX9_init 65 = .ok (.putfield 32, 3) := by decide +kernel
theorem dX9_init_68 : decode cX9_init 68 = .ok (.aload_n 0, 1) := by decide +kernel
theorem dX9_init_69 : decode cX9_init 69 = .ok (.bipush 20, 2) := by decide +kernel
theorem dX9_init_71 : decode cX9_init 71 = .ok (.newarray .int, 2) := by decide +kernel
theorem dX9_init_73 : decode cX9_init 73 = .ok (.putfield 35, 3) := by decide +kernel
theorem dX9_init_76 : decode cX9_init 76 = .ok (.aload_n 0, 1) := by decide +kernel
theorem dX9_init_77 : decode cX9_init 77 = .ok (.sipush 160, 3) := by decide +kernel
theorem dX9_init_80 : decode cX9_init 80 = .ok (.newarray .int, 2) := by decide +kernel
theorem dX9_init_82 : decode cX9_init 82 = .ok (.putfield 38, 3) := by decide +kernel
theorem dX9_init_85 : decode cX9_init 85 = .ok (.aload_n 0, 1) := by decide +kernel
theorem dX9_init_86 : decode cX9_init 86 = .ok (.iconst 2, 1) := by decide +kernel
theorem dX9_init_87 : decode cX9_init 87 = .ok (.putfield 41, 3) := by decide +kernel
theorem dX9_init_90 : decode cX9_init 90 = .ok (.aload_n 0, 1) := by decide +kernel
theorem dX9_init_91 : decode cX9_init 91 = .ok (.sipush 999, 3) := by decide +kernel
theorem dX9_init_94 : decode cX9_init 94 = .ok (.putfield 45, 3) := by decide +kernel
theorem dX9_init_97 : decode cX9_init 97 = .ok (.aload_n 0, 1) := by decide +kernel
theorem dX9_init_98 : decode cX9_init 98 = .ok (.bipush 100, 2) := by decide +kernel
theorem dX9_init_100 : decode cX9_init 100 = .ok (.putfield 48, 3) := by decide +kernel
theorem dX9_init_103 : decode cX9_init 103 = .ok (.aload_n 0, 1) := by decide +kernel
theorem dX9_init_104 : decode cX9_init 104 = .ok (.sipush 400, 3) := by decide +kernel
theorem dX9_init_107 : decode cX9_init 107 = .ok (.newarray .int, 2) := by decide +kernel
theorem dX9_init_109 : decode cX9_init 109 = .ok (.putfield 51, 3) := by decide +kernel
theorem dX9_init_112 : decode cX9_init 112 = .ok (.aload_n 0, 1) := by decide +kernel
theorem dX9_init_113 : decode cX9_init 113 = .ok (.bipush 20, 2) := by decide +kernel
theorem dX9_init_115 : decode cX9_init 115 = .ok (.newarray .int, 2) := by decide +kernel
theorem dX9_init_117 : decode cX9_init 117 = .ok (.putfield 54, 3) := by decide +kernel
theorem dX9_init_120 : decode cX9_init 120 = .ok (.aload_n 0, 1) := by decide +kernel
theorem dX9_init_121 : decode cX9_init 121 = .ok (.bipush 20, 2) := by decide +kernel
theorem dX9_init_123 : decode cX9_init 123 = .ok (.newarray .int, 2) := by decide +kernel
theorem dX9_init_125 : decode cX9_init 125 = .ok (.putfield 57, 3) := by decide +kernel
theorem dX9_init_128 : decode cX9_init 128 = .ok (.aload_n 0, 1) := by decide +kernel
theorem dX9_init_129 : decode cX9_init 129 = .ok (.bipush 9, 2) := by decide +kernel
theorem dX9_init_131 : decode cX9_init 131 = .ok (.newarray .int, 2) := by decide +kernel
theorem dX9_init_133 : decode cX9_init 133 = .ok (.putfield 60, 3) := by decide +kernel
theorem dX9_init_136 : decode cX9_init 136 = .ok (.aload_n 0, 1) := by decide +kernel
theorem dX9_init_137 : decode cX9_init 137 = .ok (.bipush 9, 2) := by decide +kernel
theorem dX9_init_139 : decode cX9_init 139 = .ok (.newarray .int, 2) := by decide +kernel
theorem dX9_init_141 : decode cX9_init 141 = .ok (.putfield 63, 3) := by decide +kernel
theorem dX9_init_144 : decode cX9_init 144 = .ok (.aload_n 0, 1) := by decide +kernel
theorem dX9_init_145 : decode cX9_init 145 = .ok (.bipush 8, 2) := by decide +kernel
theorem dX9_init_147 : decode cX9_init 147 = .ok (.newarray .int, 2) := by decide +kernel
theorem dX9_init_149 : decode cX9_init 149 = .ok (.putfield 66, 3) := by decide +kernel
theorem dX9_init_152 : decode cX9_init 152 = .ok (.aload_n 0, 1) := by decide +kernel
theorem dX9_init_153 : decode cX9_init 153 = .ok (.bipush 8, 2) := by decide +kernel
theorem dX9_init_155 : decode cX9_init 155 = .ok (.newarray .int, 2) := by decide +kernel
theorem dX9_init_157 : decode cX9_init 157 = .ok (.putfield 69, 3) := by decide +kernel
theorem dX9_init_160 : decode cX9_init 160 = .ok (.aload_n 0, 1) := by decide +kernel
theorem dX9_init_161 : decode cX9_init 161 = .ok (.sipush 160, 3) := by decide +kernel
theorem dX9_init_164 : decode cX9_init 164 = .ok (.newarray .int, 2) := by decide +kernel
theorem dX9_init_166 : decode cX9_init 166 = .ok (.putfield 72, 3) := by decide +kernel
theorem dX9_init_169 : decode cX9_init 169 = .ok (.aload_n 0, 1) := by decide +kernel
theorem dX9_init_170 : decode cX9_init 170 = .ok (.iconst 5, 1) := by decide +kernel
theorem dX9_init_171 : decode cX9_init 171 = .ok (.newarray .int, 2) := by decide +kernel
theorem dX9_init_173 : decode cX9_init 173 = .ok (.putfield 75, 3) := by decide +kernel
theorem dX9_init_176 : decode cX9_init 176 = .ok (.aload_n 0, 1) := by decide +kernel
theorem dX9_init_177 : decode cX9_init 177 = .ok (.iconst 5, 1) := by decide +kernel
theorem dX9_init_178 : decode cX9_init 178 = .ok (.newarray .int, 2) := by decide +kernel
theorem dX9_init_180 : decode cX9_init 180 = .ok (.putfield 78, 3) := by decide +kernel
theorem dX9_init_183 : decode cX9_init 183 = .ok (.aload_n 0, 1) := by decide +kernel
theorem dX9_init_184 : decode cX9_init 184 = .ok (.bipush 12, 2) := by decide +kernel
theorem dX9_init_186 : decode cX9_init 186 = .ok (.newarray .int, 2) := by decide +kernel
theorem dX9_init_188 : decode cX9_init 188 = .ok (.putfield 81, 3) := by decide +kernel
theorem dX9_init_191 : decode cX9_init 191 = .ok (.aload_n 0, 1) := by decide +kernel
theorem dX9_init_192 : decode cX9_init 192 = .ok (.bipush 12, 2) := by decide +kernel
theorem dX9_init_194 : decode cX9_init 194 = .ok (.newarray .int, 2) := by decide +kernel
theorem dX9_init_196 : decode cX9_init 196 = .ok (.putfield 84, 3) := by decide +kernel
theorem dX9_init_199 : decode cX9_init 199 = .ok (.aload_n 0, 1) := by decide +kernel
theorem dX9_init_200 : decode cX9_init 200 = .ok (.bipush 20, 2) := by decide +kernel
theorem dX9_init_202 : decode cX9_init 202 = .ok (.newarray .int, 2) := by decide +kernel
theorem dX9_init_204 : decode cX9_init 204 = .ok (.putfield 87, 3) := by decide +kernel
theorem dX9_init_207 : decode cX9_init 207 = .ok (.aload_n 0, 1) := by decide +kernel
theorem dX9_init_208 : decode cX9_init 208 = .ok (.bipush 20, 2) := by decide +kernel
theorem dX9_init_210 : decode cX9_init 210 = .ok (.newarray .int, 2) := by decide +kernel
theorem dX9_init_212 : decode cX9_init 212 = .ok (.putfield 90, 3) := by decide +kernel
theorem dX9_init_215 : decode cX9_init 215 = .ok (.aload_n 0, 1) := by decide +kernel
theorem dX9_init_216 : decode cX9_init 216 = .ok (.bipush 20, 2) := by decide +kernel
theorem dX9_init_218 : decode cX9_init 218 = .ok (.newarray .int, 2) := by decide +kernel
theorem dX9_init_220 : decode cX9_init 220 = .ok (.putfield 93, 3) := by decide +kernel
theorem dX9_init_223 : decode cX9_init 223 = .ok (.aload_n 0, 1) := by decide +kernel
theorem dX9_init_224 : decode cX9_init 224 = .ok (.bipush 20, 2) := by decide +kernel
theorem dX9_init_226 : decode cX9_init 226 = .ok (.newarray .int, 2) := by decide +kernel
theorem dX9_init_228 : decode cX9_init 228 = .ok (.putfield 96, 3) := by decide +kernel
theorem dX9_init_231 : decode cX9_init 231 = .ok (.aload_n 0, 1) := by decide +kernel
theorem dX9_init_232 : decode cX9_init 232 = .ok (.bipush 8, 2) := by decide +kernel
theorem dX9_init_234 : decode cX9_init 234 = .ok (.newarray .int, 2) := by decide +kernel
theorem dX9_init_236 : decode cX9_init 236 = .ok (.putfield 99, 3) := by decide +kernel
theorem dX9_init_239 : decode cX9_init 239 = .ok (.aload_n 0, 1) := by decide +kernel
theorem dX9_init_240 : decode cX9_init 240 = .ok (.bipush 20, 2) := by decide +kernel
theorem dX9_init_242 : decode cX9_init 242 = .ok (.newarray .int, 2) := by decide +kernel
theorem dX9_init_244 : decode cX9_init 244 = .ok (.putfield 102, 3) := by decide +kernel
theorem dX9_init_247 : decode cX9_init 247 = .ok (.aload_n 0, 1) := by decide +kernel
theorem dX9_init_248 : decode cX9_init 248 = .ok (.bipush 100, 2) := by decide +kernel
theorem dX9_init_250 : decode cX9_init 250 = .ok (.newarray .int, 2) := by decide +kernel
theorem dX9_init_252 : decode cX9_init 252 = .ok (.putfield 105, 3) := by decide +kernel
theorem dX9_init_255 : decode cX9_init 255 = .ok (.aload_n 0, 1) := by decide +kernel
theorem dX9_init_256 : decode cX9_init 256 = .ok (.sipush 160, 3) := by decide +kernel
theorem dX9_init_259 : decode cX9_init 259 = .ok (.newarray .int, 2) := by decide +kernel
theorem dX9_init_261 : decode cX9_init 261 = .ok (.putfield 108, 3) := by decide +kernel
theorem dX9_init_264 : decode cX9_init 264 = .ok (.aload_n 0, 1) := by decide +kernel
theorem dX9_init_265 : decode cX9_init 265 = .ok (.bipush 48, 2) := by decide +kernel
theorem dX9_init_267 : decode cX9_init 267 = .ok (.newarray .int, 2) := by decide +kernel
theorem dX9_init_269 : decode cX9_init 269 = .ok (.putfield 111, 3) := by decide +kernel
theorem dX9_init_272 : decode cX9_init 272 = .ok (.aload_n 0, 1) := by decide +kernel
theorem dX9_init_273 : decode cX9_init 273 = .ok (.bipush 48, 2) := by decide +kernel
theorem dX9_init_275 : decode cX9_init 275 = .ok (.newarray .int, 2) := by decide +kernel
theorem dX9_init_277 : decode cX9_init 277 = .ok (.putfield 114, 3) := by decide +kernel
theorem dX9_init_280 : decode cX9_init 280 = .ok (.iconst 0, 1) := by decide +kernel
theorem dX9_init_281 : decode cX9_init 281 = .ok (.istore_n 1, 1) := by decide +kernel
theorem dX9_init_282 : decode cX9_init 282 = .ok (.iload_n 1, 1) := by decide +kernel
theorem dX9_init_283 : decode cX9_init 283 = .ok (.bipush 8, 2) := by decide +kernel
theorem dX9_init_285 : decode cX9_init 285 = .ok (.if_icmp .ge 26, 3) := by decide +kernel
theorem dX9_init_288 : decode cX9_init 288 = .ok (.aload_n 0, 1) := by decide +kernel
theorem dX9_init_289 : decode cX9_init 289 = .ok (.getfield 69, 3) := by decide +kernel
theorem dX9_init_292 : decode cX9_init 292 = .ok (.iload_n 1, 1) := by decide +kernel
theorem dX9_init_293 : decode cX9_init 293 = .ok (.sipush 20000, 3) := by decide +kernel
theorem dX9_init_296 : decode cX9_init 296 = .ok (.iastore, 1) := by decide +kernel
theorem dX9_init_297 : decode cX9_init 297 = .ok (.aload_n 0, 1) := by decide +kernel
theorem dX9_init_298 : decode cX9_init 298 = .ok (.getfield 99, 3) := by decide +kernel
theorem dX9_init_301 : decode cX9_init 301 = .ok (.iload_n 1, 1) := by decide +kernel
theorem dX9_init_302 : decode cX9_init 302 = .ok (.bipush 64, 2) := by decide +kernel
theorem dX9_init_304 : decode cX9_init 304 = .ok (.iastore, 1) := by decide +kernel
theorem dX9_init_305 : decode cX9_init 305 = .ok (.iinc 1 1, 3) := by decide +kernel
theorem dX9_init_308 : decode cX9_init 308 = .ok (.goto (-26), 3) := by decide +kernel
theorem dX9_init_311 : decode cX9_init 311 = .ok (.iconst 0, 1) := by decide +kernel
theorem dX9_init_312 : decode cX9_init 312 = .ok (.istore_n 1, 1) := by decide +kernel
theorem dX9_init_313 : decode cX9_init 313 = .ok (.iload_n 1, 1) := by decide +kernel
theorem dX9_init_314 : decode cX9_init 314 = .ok (.iconst 5, 1) := by decide +kernel
theorem dX9_init_315 : decode cX9_init 315 = .ok (.if_icmp .ge 18, 3) := by decide +kernel
theorem dX9_init_318 : decode cX9_init 318 = .ok (.aload_n 0, 1) := by decide +kernel
theorem dX9_init_319 : decode cX9_init 319 = .ok (.getfield 78, 3) := by decide +kernel
theorem dX9_init_322 : decode cX9_init 322 = .ok (.iload_n 1, 1) := by decide +kernel
theorem dX9_init_323 : decode cX9_init 323 = .ok (.sipush 20000, 3) := by decide +kernel
theorem dX9_init_326 : decode cX9_init 326 = .ok (.iastore, 1) := by decide +kernel
theorem dX9_init_327 : decode cX9_init 327 = .ok (.iinc 1 1, 3) := by decide +kernel
theorem dX9_init_330 : decode cX9_init 330 = .ok (.goto (-17), 3) := by decide +kernel
theorem dX9_init_333 : decode cX9_init 333 = .ok (.return_, 1) := by decide +kernel
def KP_X7_init_86 : VW := [.inr (8, [.ref 1, .ref 12, .ref 56, .null, .null, .null, .null, .null, .null, .int 0]), .inr (0, [.ref 2, .ref 3, .ref 4, .ref 5, .ref 6, .ref 7, .ref 8, .ref 9, .ref 10, .ref 11, .int 0, .int 0, .int 999]), .inl (0, 20, .inl (fun _ => 0)), .inl (0, 20, .inl (fun _ => 0)), .inl (0, 20, .inl (fun _ => 0)), .inl (0, 20, .inl (fun _ => 0)), .inl (1, 20, .inr (.inl (fun _ => 0))), .inl (0, 20, .inl (fun _ => 0)), .inl (0, 20, .inl (fun _ => 0)), .inl (0, 20, .inl (fun _ => 0)), .inl (1, 20, .inr (.inl (fun _ => 0))), .inl (0, 20, .inl (fun _ => 0)), .inr (3, [.ref 1, .ref 13, .ref 34, .ref 55, .int 2]), .inl (3, 20, .inr (.inr (.inr (.inr (fun i => if i < 20 then some (14 + i) else none))))), .inl (0, 20, .inl (fun _ => 0)), .inl (0, 20, .inl (fun _ => 0)), .inl (0, 20, .inl (fun _ => 0)), .inl (0, 20, .inl (fun _ => 0)), .inl (0, 20, .inl (fun _ => 0)), .inl (0, 20, .inl (fun _ => 0)), .inl (0, 20, .inl (fun _ => 0)), .inl (0, 20, .inl (fun _ => 0)), .inl (0, 20, .inl (fun _ => 0)), .inl (0, 20, .inl (fun _ => 0)), .inl (0, 20, .inl (fun _ => 0)), .inl (0, 20, .inl (fun _ => 0)), .inl (0, 20, .inl (fun _ => 0)), .inl (0, 20, .inl (fun _ => 0)), .inl (0, 20, .inl (fun _ => 0)), .inl (0, 20, .inl (fun _ => 0)), .inl (0, 20, .inl (fun _ => 0)), .inl (0, 20, .inl (fun _ => 0)), .inl (0, 20, .inl (fun _ => 0)), .inl (0, 20, .inl (fun _ => 0)), .inl (3, 20, .inr (.inr (.inr (.inr (fun i => if i < 20 then some (35 + i) else none))))), .inl (0, 20, .inl (fun _ => 0)), .inl (0, 20, .inl (fun _ => 0)), .inl (0, 20, .inl (fun _ => 0)), .inl (0, 20, .inl (fun _ => 0)), .inl (0, 20, .inl (fun _ => 0)), .inl (0, 20, .inl (fun _ => 0)), .inl (0, 20, .inl (fun _ => 0)), .inl (0, 20, .inl (fun _ => 0)), .inl (0, 20, .inl (fun _ => 0)), .inl (0, 20, .inl (fun _ => 0)), .inl (0, 20, .inl (fun _ => 0)), .inl (0, 20, .inl (fun _ => 0)), .inl (0, 20, .inl (fun _ => 0)), .inl (0, 20, .inl (fun _ => 0)), .inl (0, 20, .inl (fun _ => 0)), .inl (0, 20, .inl (fun _ => 0)), .inl (0, 20, .inl (fun _ => 0)), .inl (0, 20, .inl (fun _ => 0)), .inl (0, 20, .inl (fun _ => 0)), .inl (0, 20, .inl (fun _ => 0)), .inl (0, 9, .inl (fun _ => 0)), .inr (5, [.ref 1, .ref 57, .int 0, .int 0, .int 0]), .inl (2, 100, .inl (fun _ => 0)), .inr (1, [.null, .null, .ref 59, .ref 60, .ref 61, .ref 62, .ref 63, .ref 84, .ref 85, .int 0, .null, .null, .null]), .inl (0, 8, .inl (fun _ => 0)), .inl (0, 8, .inl (fun _ => 0)), .inl (0, 5, .inl (fun _ => 0)), .inl (0, 5, .inl (fun _ => 0)), .inl (3, 20, .inr (.inr (.inr (.inr (fun i => if i < 20 then some (64 + i) else none))))), .inl (0, 8, .inl (fun _ => 0)), .inl (0, 8, .inl (fun _ => 0)), .inl (0, 8, .inl (fun _ => 0)), .inl (0, 8, .inl (fun _ => 0)), .inl (0, 8, .inl (fun _ => 0)), .inl (0, 8, .inl (fun _ => 0)), .inl (0, 8, .inl (fun _ => 0)), .inl (0, 8, .inl (fun _ => 0)), .inl (0, 8, .inl (fun _ => 0)), .inl (0, 8, .inl (fun _ => 0)), .inl (0, 8, .inl (fun _ => 0)), .inl (0, 8, .inl (fun _ => 0)), .inl (0, 8, .inl (fun _ => 0)), .inl (0, 8, .inl (fun _ => 0)), .inl (0, 8, .inl (fun _ => 0)), .inl (0, 8, .inl (fun _ => 0)), .inl (0, 8, .inl (fun _ => 0)), .inl (0, 8, .inl (fun _ => 0)), .inl (0, 8, .inl (fun _ => 0)), .inl (0, 8, .inl (fun _ => 0)), .inl (0, 12, .inl (fun _ => 0)), .inl (0, 12, .inl (fun _ => 0)), .inr (7, [.null, .null, .int 0])]
def KQ_X7_init_86 : VW := [.inr (8, [.ref 1, .ref 12, .ref 56, .null, .null, .null, .null, .null, .null, .int 0]), .inr (0, [.ref 2, .ref 3, .ref 4, .ref 5, .ref 6, .ref 7, .ref 8, .ref 9, .ref 10, .ref 11, .int 0, .int 0, .int 999]), .inl (0, 20, .inl (fun _ => 0)), .inl (0, 20, .inl (fun _ => 0)), .inl (0, 20, .inl (fun _ => 0)), .inl (0, 20, .inl (fun _ => 0)), .inl (1, 20, .inr (.inl (fun _ => 0))), .inl (0, 20, .inl (fun _ => 0)), .inl (0, 20, .inl (fun _ => 0)), .inl (0, 20, .inl (fun _ => 0)), .inl (1, 20, .inr (.inl (fun _ => 0))), .inl (0, 20, .inl (fun _ => 0)), .inr (3, [.ref 1, .ref 13, .ref 34, .ref 55, .int 2]), .inl (3, 20, .inr (.inr (.inr (.inr (fun i => if i < 20 then some (14 + i) else none))))), .inl (0, 20, .inl (fun _ => 0)), .inl (0, 20, .inl (fun _ => 0)), .inl (0, 20, .inl (fun _ => 0)), .inl (0, 20, .inl (fun _ => 0)), .inl (0, 20, .inl (fun _ => 0)), .inl (0, 20, .inl (fun _ => 0)), .inl (0, 20, .inl (fun _ => 0)), .inl (0, 20, .inl (fun _ => 0)), .inl (0, 20, .inl (fun _ => 0)), .inl (0, 20, .inl (fun _ => 0)), .inl (0, 20, .inl (fun _ => 0)), .inl (0, 20, .inl (fun _ => 0)), .inl (0, 20, .inl (fun _ => 0)), .inl (0, 20, .inl (fun _ => 0)), .inl (0, 20, .inl (fun _ => 0)), .inl (0, 20, .inl (fun _ => 0)), .inl (0, 20, .inl (fun _ => 0)), .inl (0, 20, .inl (fun _ => 0)), .inl (0, 20, .inl (fun _ => 0)), .inl (0, 20, .inl (fun _ => 0)), .inl (3, 20, .inr (.inr (.inr (.inr (fun i => if i < 20 then some (35 + i) else none))))), .inl (0, 20, .inl (fun _ => 0)), .inl (0, 20, .inl (fun _ => 0)), .inl (0, 20, .inl (fun _ => 0)), .inl (0, 20, .inl (fun _ => 0)), .inl (0, 20, .inl (fun _ => 0)), .inl (0, 20, .inl (fun _ => 0)), .inl (0, 20, .inl (fun _ => 0)), .inl (0, 20, .inl (fun _ => 0)), .inl (0, 20, .inl (fun _ => 0)), .inl (0, 20, .inl (fun _ => 0)), .inl (0, 20, .inl (fun _ => 0)), .inl (0, 20, .inl (fun _ => 0)), .inl (0, 20, .inl (fun _ => 0)), .inl (0, 20, .inl (fun _ => 0)), .inl (0, 20, .inl (fun _ => 0)), .inl (0, 20, .inl (fun _ => 0)), .inl (0, 20, .inl (fun _ => 0)), .inl (0, 20, .inl (fun _ => 0)), .inl (0, 20, .inl (fun _ => 0)), .inl (0, 20, .inl (fun _ => 0)), .inl (0, 9, .inl (fun _ => 0)), .inr (5, [.ref 1, .ref 57, .int 0, .int 0, .int 0]), .inl (2, 100, .inl (fun _ => 0)), .inr (1, [.null, .null, .ref 59, .ref 60, .ref 61, .ref 62, .ref 63, .ref 84, .ref 85, .int 0, .null, .null, .null]), .inl (0, 8, .inl (fun _ => 0)), .inl (0, 8, .inl (fun _ => 0)), .inl (0, 5, .inl (fun _ => 0)), .inl (0, 5, .inl (fun _ => 0)), .inl (3, 20, .inr (.inr (.inr (.inr (fun i => if i < 20 then some (64 + i) else none))))), .inl (0, 8, .inl (fun _ => 0)), .inl (0, 8, .inl (fun _ => 0)), .inl (0, 8, .inl (fun _ => 0)), .inl (0, 8, .inl (fun _ => 0)), .inl (0, 8, .inl (fun _ => 0)), .inl (0, 8, .inl (fun _ => 0)), .inl (0, 8, .inl (fun _ => 0)), .inl (0, 8, .inl (fun _ => 0)), .inl (0, 8, .inl (fun _ => 0)), .inl (0, 8, .inl (fun _ => 0)), .inl (0, 8, .inl (fun _ => 0)), .inl (0, 8, .inl (fun _ => 0)), .inl (0, 8, .inl (fun _ => 0)), .inl (0, 8, .inl (fun _ => 0)), .inl (0, 8, .inl (fun _ => 0)), .inl (0, 8, .inl (fun _ => 0)), .inl (0, 8, .inl (fun _ => 0)), .inl (0, 8, .inl (fun _ => 0)), .inl (0, 8, .inl (fun _ => 0)), .inl (0, 8, .inl (fun _ => 0)), .inl (0, 12, .inl (fun _ => 0)), .inl (0, 12, .inl (fun _ => 0)), .inr (7, [.ref 87, .ref 88, .int 0]), .inl (0, 20, .inl (fun _ => 0)), .inl (0, 20, .inl (fun _ => 0))]
set_option maxRecDepth 100000 in
set_option maxHeartbeats 40000000 in
theorem sp_X7_init_86 {G : vG} {l : Launch} : Sp G l yX7_init cX7_init 1 none 1 2 40 [.ref 86] KP_X7_init_86 (QV (fun w2 => w2 = KQ_X7_init_86)) := by
  refine Sp_of_R [(some (.ref 86))] [] rfl (by simp) rfl (Nat.le_of_ble_eq_true rfl) ?_
  refine R_aload_n (pc := 0) dX7_init_0 rfl rfl ?_
  refine R_objInit (pc := 1) wo_X7 dX7_init_1 (by decide) (by decide) ?_
  refine R_aload_n (pc := 4) dX7_init_4 rfl rfl ?_
  refine R_bipush (pc := 5) (v := 20) dX7_init_5 (by decide) ?_
  refine C_newI (pc := 7) 87 rfl (by decide) rfl (by decide) (by decide) (by decide) (by decide) dX7_init_7 ?_
  refine p_X7_9 (pc := 9) rfl rfl dX7_init_9 rfl (by decide) rfl rfl rfl ?_
  refine R_aload_n (pc := 12) dX7_init_12 rfl rfl ?_
  refine R_bipush (pc := 13) (v := 20) dX7_init_13 (by decide) ?_
  refine C_newI (pc := 15) 88 rfl (by decide) rfl (by decide) (by decide) (by decide) (by decide) dX7_init_15 ?_
  refine p_X7_15 (pc := 17) rfl rfl dX7_init_17 rfl (by decide) rfl rfl rfl ?_
  exact R_vret (pc := 20) dX7_init_20 rfl (by decide) (by decide) ⟨rfl, rfl⟩
def KP_X7_init_89 : VW := [.inr (8, [.ref 1, .ref 12, .ref 56, .null, .null, .null, .null, .null, .null, .int 0]), .inr (0, [.ref 2, .ref 3, .ref 4, .ref 5, .ref 6, .ref 7, .ref 8, .ref 9, .ref 10, .ref 11, .int 0, .int 0, .int 999]), .inl (0, 20, .inl (fun _ => 0)), .inl (0, 20, .inl (fun _ => 0)), .inl (0, 20, .inl (fun _ => 0)), .inl (0, 20, .inl (fun _ => 0)), .inl (1, 20, .inr (.inl (fun _ => 0))), .inl (0, 20, .inl (fun _ => 0)), .inl (0, 20, .inl (fun _ => 0)), .inl (0, 20, .inl (fun _ => 0)), .inl (1, 20, .inr (.inl (fun _ => 0))), .inl (0, 20, .inl (fun _ => 0)), .inr (3, [.ref 1, .ref 13, .ref 34, .ref 55, .int 2]), .inl (3, 20, .inr (.inr (.inr (.inr (fun i => if i < 20 then some (14 + i) else none))))), .inl (0, 20, .inl (fun _ => 0)), .inl (0, 20, .inl (fun _ => 0)), .inl (0, 20, .inl (fun _ => 0)), .inl (0, 20, .inl (fun _ => 0)), .inl (0, 20, .inl (fun _ => 0)), .inl (0, 20, .inl (fun _ => 0)), .inl (0, 20, .inl (fun _ => 0)), .inl (0, 20, .inl (fun _ => 0)), .inl (0, 20, .inl (fun _ => 0)), .inl (0, 20, .inl (fun _ => 0)), .inl (0, 20, .inl (fun _ => 0)), .inl (0, 20, .inl (fun _ => 0)), .inl (0, 20, .inl (fun _ => 0)), .inl (0, 20, .inl (fun _ => 0)), .inl (0, 20, .inl (fun _ => 0)), .inl (0, 20, .inl (fun _ => 0)), .inl (0, 20, .inl (fun _ => 0)), .inl (0, 20, .inl (fun _ => 0)), .inl (0, 20, .inl (fun _ => 0)), .inl (0, 20, .inl (fun _ => 0)), .inl (3, 20, .inr (.inr (.inr (.inr (fun i => if i < 20 then some (35 + i) else none))))), .inl (0, 20, .inl (fun _ => 0)), .inl (0, 20, .inl (fun _ => 0)), .inl (0, 20, .inl (fun _ => 0)), .inl (0, 20, .inl (fun _ => 0)), .inl (0, 20, .inl (fun _ => 0)), .inl (0, 20, .inl (fun _ => 0)), .inl (0, 20, .inl (fun _ => 0)), .inl (0, 20, .inl (fun _ => 0)), .inl (0, 20, .inl (fun _ => 0)), .inl (0, 20, .inl (fun _ => 0)), .inl (0, 20, .inl (fun _ => 0)), .inl (0, 20, .inl (fun _ => 0)), .inl (0, 20, .inl (fun _ => 0)), .inl (0, 20, .inl (fun _ => 0)), .inl (0, 20, .inl (fun _ => 0)), .inl (0, 20, .inl (fun _ => 0)), .inl (0, 20, .inl (fun _ => 0)), .inl (0, 20, .inl (fun _ => 0)), .inl (0, 20, .inl (fun _ => 0)), .inl (0, 20, .inl (fun _ => 0)), .inl (0, 9, .inl (fun _ => 0)), .inr (5, [.ref 1, .ref 57, .int 0, .int 0, .int 0]), .inl (2, 100, .inl (fun _ => 0)), .inr (1, [.null, .null, .ref 59, .ref 60, .ref 61, .ref 62, .ref 63, .ref 84, .ref 85, .int 0, .ref 86, .null, .null]), .inl (0, 8, .inl (fun _ => 0)), .inl (0, 8, .inl (fun _ => 0)), .inl (0, 5, .inl (fun _ => 0)), .inl (0, 5, .inl (fun _ => 0)), .inl (3, 20, .inr (.inr (.inr (.inr (fun i => if i < 20 then some (64 + i) else none))))), .inl (0, 8, .inl (fun _ => 0)), .inl (0, 8, .inl (fun _ => 0)), .inl (0, 8, .inl (fun _ => 0)), .inl (0, 8, .inl (fun _ => 0)), .inl (0, 8, .inl (fun _ => 0)), .inl (0, 8, .inl (fun _ => 0)), .inl (0, 8, .inl (fun _ => 0)), .inl (0, 8, .inl (fun _ => 0)), .inl (0, 8, .inl (fun _ => 0)), .inl (0, 8, .inl (fun _ => 0)), .inl (0, 8, .inl (fun _ => 0)), .inl (0, 8, .inl (fun _ => 0)), .inl (0, 8, .inl (fun _ => 0)), .inl (0, 8, .inl (fun _ => 0)), .inl (0, 8, .inl (fun _ => 0)), .inl (0, 8, .inl (fun _ => 0)), .inl (0, 8, .inl (fun _ => 0)), .inl (0, 8, .inl (fun _ => 0)), .inl (0, 8, .inl (fun _ => 0)), .inl (0, 8, .inl (fun _ => 0)), .inl (0, 12, .inl (fun _ => 0)), .inl (0, 12, .inl (fun _ => 0)), .inr (7, [.ref 87, .ref 88, .int 0]), .inl (0, 20, .inl (fun _ => 0)), .inl (0, 20, .inl (fun _ => 0)), .inr (7, [.null, .null, .int 0])]
def KQ_X7_init_89 : VW := [.inr (8, [.ref 1, .ref 12, .ref 56, .null, .null, .null, .null, .null, .null, .int 0]), .inr (0, [.ref 2, .ref 3, .ref 4, .ref 5, .ref 6, .ref 7, .ref 8, .ref 9, .ref 10, .ref 11, .int 0, .int 0, .int 999]), .inl (0, 20, .inl (fun _ => 0)), .inl (0, 20, .inl (fun _ => 0)), .inl (0, 20, .inl (fun _ => 0)), .inl (0, 20, .inl (fun _ => 0)), .inl (1, 20, .inr (.inl (fun _ => 0))), .inl (0, 20, .inl (fun _ => 0)), .inl (0, 20, .inl (fun _ => 0)), .inl (0, 20, .inl (fun _ => 0)), .inl (1, 20, .inr (.inl (fun _ => 0))), .inl (0, 20, .inl (fun _ => 0)), .inr (3, [.ref 1, .ref 13, .ref 34, .ref 55, .int 2]), .inl (3, 20, .inr (.inr (.inr (.inr (fun i => if i < 20 then some (14 + i) else none))))), .inl (0, 20, .inl (fun _ => 0)), .inl (0, 20, .inl (fun _ => 0)), .inl (0, 20, .inl (fun _ => 0)), .inl (0, 20, .inl (fun _ => 0)), .inl (0, 20, .inl (fun _ => 0)), .inl (0, 20, .inl (fun _ => 0)), .inl (0, 20, .inl (fun _ => 0)), .inl (0, 20, .inl (fun _ => 0)), .inl (0, 20, .inl (fun _ => 0)), .inl (0, 20, .inl (fun _ => 0)), .inl (0, 20, .inl (fun _ => 0)), .inl (0, 20, .inl (fun _ => 0)), .inl (0, 20, .inl (fun _ => 0)), .inl (0, 20, .inl (fun _ => 0)), .inl (0, 20, .inl (fun _ => 0)), .inl (0, 20, .inl (fun _ => 0)), .inl (0, 20, .inl (fun _ => 0)), .inl (0, 20, .inl (fun _ => 0)), .inl (0, 20, .inl (fun _ => 0)), .inl (0, 20, .inl (fun _ => 0)), .inl (3, 20, .inr (.inr (.inr (.inr (fun i => if i < 20 then some (35 + i) else none))))), .inl (0, 20, .inl (fun _ => 0)), .inl (0, 20, .inl (fun _ => 0)), .inl (0, 20, .inl (fun _ => 0)), .inl (0, 20, .inl (fun _ => 0)), .inl (0, 20, .inl (fun _ => 0)), .inl (0, 20, .inl (fun _ => 0)), .inl (0, 20, .inl (fun _ => 0)), .inl (0, 20, .inl (fun _ => 0)), .inl (0, 20, .inl (fun _ => 0)), .inl (0, 20, .inl (fun _ => 0)), .inl (0, 20, .inl (fun _ => 0)), .inl (0, 20, .inl (fun _ => 0)), .inl (0, 20, .inl (fun _ => 0)), .inl (0, 20, .inl (fun _ => 0)), .inl (0, 20, .inl (fun _ => 0)), .inl (0, 20, .inl (fun _ => 0)), .inl (0, 20, .inl (fun _ => 0)), .inl (0, 20, .inl (fun _ => 0)), .inl (0, 20, .inl (fun _ => 0)), .inl (0, 20, .inl (fun _ => 0)), .inl (0, 9, .inl (fun _ => 0)), .inr (5, [.ref 1, .ref 57, .int 0, .int 0, .int 0]), .inl (2, 100, .inl (fun _ => 0)), .inr (1, [.null, .null, .ref 59, .ref 60, .ref 61, .ref 62, .ref 63, .ref 84, .ref 85, .int 0, .ref 86, .null, .null]), .inl (0, 8, .inl (fun _ => 0)), .inl (0, 8, .inl (fun _ => 0)), .inl (0, 5, .inl (fun _ => 0)), .inl (0, 5, .inl (fun _ => 0)), .inl (3, 20, .inr (.inr (.inr (.inr (fun i => if i < 20 then some (64 + i) else none))))), .inl (0, 8, .inl (fun _ => 0)), .inl (0, 8, .inl (fun _ => 0)), .inl (0, 8, .inl (fun _ => 0)), .inl (0, 8, .inl (fun _ => 0)), .inl (0, 8, .inl (fun _ => 0)), .inl (0, 8, .inl (fun _ => 0)), .inl (0, 8, .inl (fun _ => 0)), .inl (0, 8, .inl (fun _ => 0)), .inl (0, 8, .inl (fun _ => 0)), .inl (0, 8, .inl (fun _ => 0)), .inl (0, 8, .inl (fun _ => 0)), .inl (0, 8, .inl (fun _ => 0)), .inl (0, 8, .inl (fun _ => 0)), .inl (0, 8, .inl (fun _ => 0)), .inl (0, 8, .inl (fun _ => 0)), .inl (0, 8, .inl (fun _ => 0)), .inl (0, 8, .inl (fun _ => 0)), .inl (0, 8, .inl (fun _ => 0)), .inl (0, 8, .inl (fun _ => 0)), .inl (0, 8, .inl (fun _ => 0)), .inl (0, 12, .inl (fun _ => 0)), .inl (0, 12, .inl (fun _ => 0)), .inr (7, [.ref 87, .ref 88, .int 0]), .inl (0, 20, .inl (fun _ => 0)), .inl (0, 20, .inl (fun _ => 0)), .inr (7, [.ref 90, .ref 91, .int 0]), .inl (0, 20, .inl (fun _ => 0)), .inl (0, 20, .inl (fun _ => 0))]
set_option maxRecDepth 100000 in
set_option maxHeartbeats 40000000 in
theorem sp_X7_init_89 {G : vG} {l : Launch} : Sp G l yX7_init cX7_init 1 none 1 2 40 [.ref 89] KP_X7_init_89 (QV (fun w2 => w2 = KQ_X7_init_89)) := by
  refine Sp_of_R [(some (.ref 89))] [] rfl (by simp) rfl (Nat.le_of_ble_eq_true rfl) ?_
  refine R_aload_n (pc := 0) dX7_init_0 rfl rfl ?_
  refine R_objInit (pc := 1) wo_X7 dX7_init_1 (by decide) (by decide) ?_
  refine R_aload_n (pc := 4) dX7_init_4 rfl rfl ?_
  refine R_bipush (pc := 5) (v := 20) dX7_init_5 (by decide) ?_
  refine C_newI (pc := 7) 90 rfl (by decide) rfl (by decide) (by decide) (by decide) (by decide) dX7_init_7 ?_
  refine p_X7_9 (pc := 9) rfl rfl dX7_init_9 rfl (by decide) rfl rfl rfl ?_
  refine R_aload_n (pc := 12) dX7_init_12 rfl rfl ?_
  refine R_bipush (pc := 13) (v := 20) dX7_init_13 (by decide) ?_
  refine C_newI (pc := 15) 91 rfl (by decide) rfl (by decide) (by decide) (by decide) (by decide) dX7_init_15 ?_
  refine p_X7_15 (pc := 17) rfl rfl dX7_init_17 rfl (by decide) rfl rfl rfl ?_
  exact R_vret (pc := 20) dX7_init_20 rfl (by decide) (by decide) ⟨rfl, rfl⟩
def KP_X4_init_119 : VW := [.inr (8, [.ref 1, .ref 12, .ref 56, .ref 58, .ref 93, .ref 117, .null, .null, .null, .int 0]), .inr (0, [.ref 2, .ref 3, .ref 4, .ref 5, .ref 6, .ref 7, .ref 8, .ref 9, .ref 10, .ref 11, .int 0, .int 0, .int 999]), .inl (0, 20, .inl (fun _ => 0)), .inl (0, 20, .inl (fun _ => 0)), .inl (0, 20, .inl (fun _ => 0)), .inl (0, 20, .inl (fun _ => 0)), .inl (1, 20, .inr (.inl (fun _ => 0))), .inl (0, 20, .inl (fun _ => 0)), .inl (0, 20, .inl (fun _ => 0)), .inl (0, 20, .inl (fun _ => 0)), .inl (1, 20, .inr (.inl (fun _ => 0))), .inl (0, 20, .inl (fun _ => 0)), .inr (3, [.ref 1, .ref 13, .ref 34, .ref 55, .int 2]), .inl (3, 20, .inr (.inr (.inr (.inr (fun i => if i < 20 then some (14 + i) else none))))), .inl (0, 20, .inl (fun _ => 0)), .inl (0, 20, .inl (fun _ => 0)), .inl (0, 20, .inl (fun _ => 0)), .inl (0, 20, .inl (fun _ => 0)), .inl (0, 20, .inl (fun _ => 0)), .inl (0, 20, .inl (fun _ => 0)), .inl (0, 20, .inl (fun _ => 0)), .inl (0, 20, .inl (fun _ => 0)), .inl (0, 20, .inl (fun _ => 0)), .inl (0, 20, .inl (fun _ => 0)), .inl (0, 20, .inl (fun _ => 0)), .inl (0, 20, .inl (fun _ => 0)), .inl (0, 20, .inl (fun _ => 0)), .inl (0, 20, .inl (fun _ => 0)), .inl (0, 20, .inl (fun _ => 0)), .inl (0, 20, .inl (fun _ => 0)), .inl (0, 20, .inl (fun _ => 0)), .inl (0, 20, .inl (fun _ => 0)), .inl (0, 20, .inl (fun _ => 0)), .inl (0, 20, .inl (fun _ => 0)), .inl (3, 20, .inr (.inr (.inr (.inr (fun i => if i < 20 then some (35 + i) else none))))), .inl (0, 20, .inl (fun _ => 0)), .inl (0, 20, .inl (fun _ => 0)), .inl (0, 20, .inl (fun _ => 0)), .inl (0, 20, .inl (fun _ => 0)), .inl (0, 20, .inl (fun _ => 0)), .inl (0, 20, .inl (fun _ => 0)), .inl (0, 20, .inl (fun _ => 0)), .inl (0, 20, .inl (fun _ => 0)), .inl (0, 20, .inl (fun _ => 0)), .inl (0, 20, .inl (fun _ => 0)), .inl (0, 20, .inl (fun _ => 0)), .inl (0, 20, .inl (fun _ => 0)), .inl (0, 20, .inl (fun _ => 0)), .inl (0, 20, .inl (fun _ => 0)), .inl (0, 20, .inl (fun _ => 0)), .inl (0, 20, .inl (fun _ => 0)), .inl (0, 20, .inl (fun _ => 0)), .inl (0, 20, .inl (fun _ => 0)), .inl (0, 20, .inl (fun _ => 0)), .inl (0, 20, .inl (fun _ => 0)), .inl (0, 9, .inl (fun _ => 0)), .inr (5, [.ref 1, .ref 57, .int 0, .int 0, .int 0]), .inl (2, 100, .inl (fun _ => 0)), .inr (1, [.ref 1, .ref 12, .ref 59, .ref 60, .ref 61, .ref 62, .ref 63, .ref 84, .ref 85, .int 0, .ref 86, .ref 89, .ref 92]), .inl (0, 8, .inl (fun _ => 0)), .inl (0, 8, .inl (fil 20000 8)), .inl (0, 5, .inl (fun _ => 0)), .inl (0, 5, .inl (fil 20000 5)), .inl (3, 20, .inr (.inr (.inr (.inr (fun i => if i < 20 then some (64 + i) else none))))), .inl (0, 8, .inl (fil 2 8)), .inl (0, 8, .inl (fil 2 8)), .inl (0, 8, .inl (fil 2 8)), .inl (0, 8, .inl (fil 2 8)), .inl (0, 8, .inl (fil 2 8)), .inl (0, 8, .inl (fil 2 8)), .inl (0, 8, .inl (fil 2 8)), .inl (0, 8, .inl (fil 2 8)), .inl (0, 8, .inl (fil 2 8)), .inl (0, 8, .inl (fil 2 8)), .inl (0, 8, .inl (fil 2 8)), .inl (0, 8, .inl (fil 2 8)), .inl (0, 8, .inl (fil 2 8)), .inl (0, 8, .inl (fil 2 8)), .inl (0, 8, .inl (fil 2 8)), .inl (0, 8, .inl (fil 2 8)), .inl (0, 8, .inl (fil 2 8)), .inl (0, 8, .inl (fil 2 8)), .inl (0, 8, .inl (fil 2 8)), .inl (0, 8, .inl (fil 2 8)), .inl (0, 12, .inl (fun _ => 0)), .inl (0, 12, .inl (fun _ => 0)), .inr (7, [.ref 87, .ref 88, .int 0]), .inl (0, 20, .inl (fun _ => 0)), .inl (0, 20, .inl (fun _ => 0)), .inr (7, [.ref 90, .ref 91, .int 0]), .inl (0, 20, .inl (fun _ => 0)), .inl (0, 20, .inl (fun _ => 0)), .inl (0, 20, .inl (fun _ => 0)), .inr (2, [.ref 94, .long 0, .ref 95, .ref 116]), .inl (0, 8, .inl (fil 64 8)), .inl (3, 20, .inr (.inr (.inr (.inr (fun i => if i < 20 then some (96 + i) else none))))), .inl (0, 5, .inl (fun _ => 0)), .inl (0, 5, .inl (fun _ => 0)), .inl (0, 5, .inl (fun _ => 0)), .inl (0, 5, .inl (fun _ => 0)), .inl (0, 5, .inl (fun _ => 0)), .inl (0, 5, .inl (fun _ => 0)), .inl (0, 5, .inl (fun _ => 0)), .inl (0, 5, .inl (fun _ => 0)), .inl (0, 5, .inl (fun _ => 0)), .inl (0, 5, .inl (fun _ => 0)), .inl (0, 5, .inl (fun _ => 0)), .inl (0, 5, .inl (fun _ => 0)), .inl (0, 5, .inl (fun _ => 0)), .inl (0, 5, .inl (fun _ => 0)), .inl (0, 5, .inl (fun _ => 0)), .inl (0, 5, .inl (fun _ => 0)), .inl (0, 5, .inl (fun _ => 0)), .inl (0, 5, .inl (fun _ => 0)), .inl (0, 5, .inl (fun _ => 0)), .inl (0, 5, .inl (fun _ => 0)), .inl (0, 20, .inl (fun _ => 0)), .inr (6, [.ref 118, .int 0, .int 0, .int 0, .int 0]), .inl (0, 160, .inl (fun _ => 0)), .inr (4, [.null, .null, .null, .null, .null, .null, .int 0])]
def KQ_X4_init_119 : VW := [.inr (8, [.ref 1, .ref 12, .ref 56, .ref 58, .ref 93, .ref 117, .null, .null, .null, .int 0]), .inr (0, [.ref 2, .ref 3, .ref 4, .ref 5, .ref 6, .ref 7, .ref 8, .ref 9, .ref 10, .ref 11, .int 0, .int 0, .int 999]), .inl (0, 20, .inl (fun _ => 0)), .inl (0, 20, .inl (fun _ => 0)), .inl (0, 20, .inl (fun _ => 0)), .inl (0, 20, .inl (fun _ => 0)), .inl (1, 20, .inr (.inl (fun _ => 0))), .inl (0, 20, .inl (fun _ => 0)), .inl (0, 20, .inl (fun _ => 0)), .inl (0, 20, .inl (fun _ => 0)), .inl (1, 20, .inr (.inl (fun _ => 0))), .inl (0, 20, .inl (fun _ => 0)), .inr (3, [.ref 1, .ref 13, .ref 34, .ref 55, .int 2]), .inl (3, 20, .inr (.inr (.inr (.inr (fun i => if i < 20 then some (14 + i) else none))))), .inl (0, 20, .inl (fun _ => 0)), .inl (0, 20, .inl (fun _ => 0)), .inl (0, 20, .inl (fun _ => 0)), .inl (0, 20, .inl (fun _ => 0)), .inl (0, 20, .inl (fun _ => 0)), .inl (0, 20, .inl (fun _ => 0)), .inl (0, 20, .inl (fun _ => 0)), .inl (0, 20, .inl (fun _ => 0)), .inl (0, 20, .inl (fun _ => 0)), .inl (0, 20, .inl (fun _ => 0)), .inl (0, 20, .inl (fun _ => 0)), .inl (0, 20, .inl (fun _ => 0)), .inl (0, 20, .inl (fun _ => 0)), .inl (0, 20, .inl (fun _ => 0)), .inl (0, 20, .inl (fun _ => 0)), .inl (0, 20, .inl (fun _ => 0)), .inl (0, 20, .inl (fun _ => 0)), .inl (0, 20, .inl (fun _ => 0)), .inl (0, 20, .inl (fun _ => 0)), .inl (0, 20, .inl (fun _ => 0)), .inl (3, 20, .inr (.inr (.inr (.inr (fun i => if i < 20 then some (35 + i) else none))))), .inl (0, 20, .inl (fun _ => 0)), .inl (0, 20, .inl (fun _ => 0)), .inl (0, 20, .inl (fun _ => 0)), .inl (0, 20, .inl (fun _ => 0)), .inl (0, 20, .inl (fun _ => 0)), .inl (0, 20, .inl (fun _ => 0)), .inl (0, 20, .inl (fun _ => 0)), .inl (0, 20, .inl (fun _ => 0)), .inl (0, 20, .inl (fun _ => 0)), .inl (0, 20, .inl (fun _ => 0)), .inl (0, 20, .inl (fun _ => 0)), .inl (0, 20, .inl (fun _ => 0)), .inl (0, 20, .inl (fun _ => 0)), .inl (0, 20, .inl (fun _ => 0)), .inl (0, 20, .inl (fun _ => 0)), .inl (0, 20, .inl (fun _ => 0)), .inl (0, 20, .inl (fun _ => 0)), .inl (0, 20, .inl (fun _ => 0)), .inl (0, 20, .inl (fun _ => 0)), .inl (0, 20, .inl (fun _ => 0)), .inl (0, 9, .inl (fun _ => 0)), .inr (5, [.ref 1, .ref 57, .int 0, .int 0, .int 0]), .inl (2, 100, .inl (fun _ => 0)), .inr (1, [.ref 1, .ref 12, .ref 59, .ref 60, .ref 61, .ref 62, .ref 63, .ref 84, .ref 85, .int 0, .ref 86, .ref 89, .ref 92]), .inl (0, 8, .inl (fun _ => 0)), .inl (0, 8, .inl (fil 20000 8)), .inl (0, 5, .inl (fun _ => 0)), .inl (0, 5, .inl (fil 20000 5)), .inl (3, 20, .inr (.inr (.inr (.inr (fun i => if i < 20 then some (64 + i) else none))))), .inl (0, 8, .inl (fil 2 8)), .inl (0, 8, .inl (fil 2 8)), .inl (0, 8, .inl (fil 2 8)), .inl (0, 8, .inl (fil 2 8)), .inl (0, 8, .inl (fil 2 8)), .inl (0, 8, .inl (fil 2 8)), .inl (0, 8, .inl (fil 2 8)), .inl (0, 8, .inl (fil 2 8)), .inl (0, 8, .inl (fil 2 8)), .inl (0, 8, .inl (fil 2 8)), .inl (0, 8, .inl (fil 2 8)), .inl (0, 8, .inl (fil 2 8)), .inl (0, 8, .inl (fil 2 8)), .inl (0, 8, .inl (fil 2 8)), .inl (0, 8, .inl (fil 2 8)), .inl (0, 8, .inl (fil 2 8)), .inl (0, 8, .inl (fil 2 8)), .inl (0, 8, .inl (fil 2 8)), .inl (0, 8, .inl (fil 2 8)), .inl (0, 8, .inl (fil 2 8)), .inl (0, 12, .inl (fun _ => 0)), .inl (0, 12, .inl (fun _ => 0)), .inr (7, [.ref 87, .ref 88, .int 0]), .inl (0, 20, .inl (fun _ => 0)), .inl (0, 20, .inl (fun _ => 0)), .inr (7, [.ref 90, .ref 91, .int 0]), .inl (0, 20, .inl (fun _ => 0)), .inl (0, 20, .inl (fun _ => 0)), .inl (0, 20, .inl (fun _ => 0)), .inr (2, [.ref 94, .long 0, .ref 95, .ref 116]), .inl (0, 8, .inl (fil 64 8)), .inl (3, 20, .inr (.inr (.inr (.inr (fun i => if i < 20 then some (96 + i) else none))))), .inl (0, 5, .inl (fun _ => 0)), .inl (0, 5, .inl (fun _ => 0)), .inl (0, 5, .inl (fun _ => 0)), .inl (0, 5, .inl (fun _ => 0)), .inl (0, 5, .inl (fun _ => 0)), .inl (0, 5, .inl (fun _ => 0)), .inl (0, 5, .inl (fun _ => 0)), .inl (0, 5, .inl (fun _ => 0)), .inl (0, 5, .inl (fun _ => 0)), .inl (0, 5, .inl (fun _ => 0)), .inl (0, 5, .inl (fun _ => 0)), .inl (0, 5, .inl (fun _ => 0)), .inl (0, 5, .inl (fun _ => 0)), .inl (0, 5, .inl (fun _ => 0)), .inl (0, 5, .inl (fun _ => 0)), .inl (0, 5, .inl (fun _ => 0)), .inl (0, 5, .inl (fun _ => 0)), .inl (0, 5, .inl (fun _ => 0)), .inl (0, 5, .inl (fun _ => 0)), .inl (0, 5, .inl (fun _ => 0)), .inl (0, 20, .inl (fun _ => 0)), .inr (6, [.ref 118, .int 0, .int 0, .int 0, .int 0]), .inl (0, 160, .inl (fun _ => 0)), .inr (4, [.ref 120, .ref 121, .ref 122, .ref 123, .ref 124, .ref 125, .int 0]), .inl (0, 8, .inl (fun _ => 0)), .inl (0, 8, .inl (fun _ => 0)), .inl (0, 8, .inl (fun _ => 0)), .inl (2, 8, .inl (fun _ => 0)), .inl (0, 8, .inl (fun _ => 0)), .inl (0, 8, .inl (fun _ => 0))]
set_option maxRecDepth 100000 in
set_option maxHeartbeats 40000000 in
theorem sp_X4_init_119 {G : vG} {l : Launch} : Sp G l yX4_init cX4_init 1 none 1 6 48 [.ref 119] KP_X4_init_119 (QV (fun w2 => w2 = KQ_X4_init_119)) := by
  refine Sp_of_R [(some (.ref 119))] [] rfl (by simp) rfl (Nat.le_of_ble_eq_true rfl) ?_
  refine R_aload_n (pc := 0) dX4_init_0 rfl rfl ?_
  refine R_objInit (pc := 1) wo_X4 dX4_init_1 (by decide) (by decide) ?_
  refine R_aload_n (pc := 4) dX4_init_4 rfl rfl ?_
  refine R_bipush (pc := 5) (v := 8) dX4_init_5 (by decide) ?_
  refine C_newI (pc := 7) 120 rfl (by decide) rfl (by decide) (by decide) (by decide) (by decide) dX4_init_7 ?_
  refine p_X4_9 (pc := 9) rfl rfl dX4_init_9 rfl (by decide) rfl rfl rfl ?_
  refine R_aload_n (pc := 12) dX4_init_12 rfl rfl ?_
  refine R_bipush (pc := 13) (v := 8) dX4_init_13 (by decide) ?_
  refine C_newI (pc := 15) 121 rfl (by decide) rfl (by decide) (by decide) (by decide) (by decide) dX4_init_15 ?_
  refine p_X4_15 (pc := 17) rfl rfl dX4_init_17 rfl (by decide) rfl rfl rfl ?_
  refine R_aload_n (pc := 20) dX4_init_20 rfl rfl ?_
  refine R_bipush (pc := 21) (v := 8) dX4_init_21 (by decide) ?_
  refine C_newI (pc := 23) 122 rfl (by decide) rfl (by decide) (by decide) (by decide) (by decide) dX4_init_23 ?_
  refine p_X4_18 (pc := 25) rfl rfl dX4_init_25 rfl (by decide) rfl rfl rfl ?_
  refine R_aload_n (pc := 28) dX4_init_28 rfl rfl ?_
  refine R_bipush (pc := 29) (v := 8) dX4_init_29 (by decide) ?_
  refine C_newZ (pc := 31) 123 rfl (by decide) rfl (by decide) (by decide) (by decide) (by decide) dX4_init_31 ?_
  refine p_X4_21 (pc := 33) rfl rfl dX4_init_33 rfl (by decide) rfl rfl rfl ?_
  refine R_aload_n (pc := 36) dX4_init_36 rfl rfl ?_
  refine R_bipush (pc := 37) (v := 8) dX4_init_37 (by decide) ?_
  refine C_newI (pc := 39) 124 rfl (by decide) rfl (by decide) (by decide) (by decide) (by decide) dX4_init_39 ?_
  refine p_X4_25 (pc := 41) rfl rfl dX4_init_41 rfl (by decide) rfl rfl rfl ?_
  refine R_aload_n (pc := 44) dX4_init_44 rfl rfl ?_
  refine R_bipush (pc := 45) (v := 8) dX4_init_45 (by decide) ?_
  refine C_newI (pc := 47) 125 rfl (by decide) rfl (by decide) (by decide) (by decide) (by decide) dX4_init_47 ?_
  refine p_X4_28 (pc := 49) rfl rfl dX4_init_49 rfl (by decide) rfl rfl rfl ?_
  exact R_vret (pc := 52) dX4_init_52 rfl (by decide) (by decide) ⟨rfl, rfl⟩
def KP_X4_init_126 : VW := [.inr (8, [.ref 1, .ref 12, .ref 56, .ref 58, .ref 93, .ref 117, .ref 119, .null, .null, .int 0]), .inr (0, [.ref 2, .ref 3, .ref 4, .ref 5, .ref 6, .ref 7, .ref 8, .ref 9, .ref 10, .ref 11, .int 0, .int 0, .int 999]), .inl (0, 20, .inl (fun _ => 0)), .inl (0, 20, .inl (fun _ => 0)), .inl (0, 20, .inl (fun _ => 0)), .inl (0, 20, .inl (fun _ => 0)), .inl (1, 20, .inr (.inl (fun _ => 0))), .inl (0, 20, .inl (fun _ => 0)), .inl (0, 20, .inl (fun _ => 0)), .inl (0, 20, .inl (fun _ => 0)), .inl (1, 20, .inr (.inl (fun _ => 0))), .inl (0, 20, .inl (fun _ => 0)), .inr (3, [.ref 1, .ref 13, .ref 34, .ref 55, .int 2]), .inl (3, 20, .inr (.inr (.inr (.inr (fun i => if i < 20 then some (14 + i) else none))))), .inl (0, 20, .inl (fun _ => 0)), .inl (0, 20, .inl (fun _ => 0)), .inl (0, 20, .inl (fun _ => 0)), .inl (0, 20, .inl (fun _ => 0)), .inl (0, 20, .inl (fun _ => 0)), .inl (0, 20, .inl (fun _ => 0)), .inl (0, 20, .inl (fun _ => 0)), .inl (0, 20, .inl (fun _ => 0)), .inl (0, 20, .inl (fun _ => 0)), .inl (0, 20, .inl (fun _ => 0)), .inl (0, 20, .inl (fun _ => 0)), .inl (0, 20, .inl (fun _ => 0)), .inl (0, 20, .inl (fun _ => 0)), .inl (0, 20, .inl (fun _ => 0)), .inl (0, 20, .inl (fun _ => 0)), .inl (0, 20, .inl (fun _ => 0)), .inl (0, 20, .inl (fun _ => 0)), .inl (0, 20, .inl (fun _ => 0)), .inl (0, 20, .inl (fun _ => 0)), .inl (0, 20, .inl (fun _ => 0)), .inl (3, 20, .inr (.inr (.inr (.inr (fun i => if i < 20 then some (35 + i) else none))))), .inl (0, 20, .inl (fun _ => 0)), .inl (0, 20, .inl (fun _ => 0)), .inl (0, 20, .inl (fun _ => 0)), .inl (0, 20, .inl (fun _ => 0)), .inl (0, 20, .inl (fun _ => 0)), .inl (0, 20, .inl (fun _ => 0)), .inl (0, 20, .inl (fun _ => 0)), .inl (0, 20, .inl (fun _ => 0)), .inl (0, 20, .inl (fun _ => 0)), .inl (0, 20, .inl (fun _ => 0)), .inl (0, 20, .inl (fun _ => 0)), .inl (0, 20, .inl (fun _ => 0)), .inl (0, 20, .inl (fun _ => 0)), .inl (0, 20, .inl (fun _ => 0)), .inl (0, 20, .inl (fun _ => 0)), .inl (0, 20, .inl (fun _ => 0)), .inl (0, 20, .inl (fun _ => 0)), .inl (0, 20, .inl (fun _ => 0)), .inl (0, 20, .inl (fun _ => 0)), .inl (0, 20, .inl (fun _ => 0)), .inl (0, 9, .inl (fun _ => 0)), .inr (5, [.ref 1, .ref 57, .int 0, .int 0, .int 0]), .inl (2, 100, .inl (fun _ => 0)), .inr (1, [.ref 1, .ref 12, .ref 59, .ref 60, .ref 61, .ref 62, .ref 63, .ref 84, .ref 85, .int 0, .ref 86, .ref 89, .ref 92]), .inl (0, 8, .inl (fun _ => 0)), .inl (0, 8, .inl (fil 20000 8)), .inl (0, 5, .inl (fun _ => 0)), .inl (0, 5, .inl (fil 20000 5)), .inl (3, 20, .inr (.inr (.inr (.inr (fun i => if i < 20 then some (64 + i) else none))))), .inl (0, 8, .inl (fil 2 8)), .inl (0, 8, .inl (fil 2 8)), .inl (0, 8, .inl (fil 2 8)), .inl (0, 8, .inl (fil 2 8)), .inl (0, 8, .inl (fil 2 8)), .inl (0, 8, .inl (fil 2 8)), .inl (0, 8, .inl (fil 2 8)), .inl (0, 8, .inl (fil 2 8)), .inl (0, 8, .inl (fil 2 8)), .inl (0, 8, .inl (fil 2 8)), .inl (0, 8, .inl (fil 2 8)), .inl (0, 8, .inl (fil 2 8)), .inl (0, 8, .inl (fil 2 8)), .inl (0, 8, .inl (fil 2 8)), .inl (0, 8, .inl (fil 2 8)), .inl (0, 8, .inl (fil 2 8)), .inl (0, 8, .inl (fil 2 8)), .inl (0, 8, .inl (fil 2 8)), .inl (0, 8, .inl (fil 2 8)), .inl (0, 8, .inl (fil 2 8)), .inl (0, 12, .inl (fun _ => 0)), .inl (0, 12, .inl (fun _ => 0)), .inr (7, [.ref 87, .ref 88, .int 0]), .inl (0, 20, .inl (fun _ => 0)), .inl (0, 20, .inl (fun _ => 0)), .inr (7, [.ref 90, .ref 91, .int 0]), .inl (0, 20, .inl (fun _ => 0)), .inl (0, 20, .inl (fun _ => 0)), .inl (0, 20, .inl (fun _ => 0)), .inr (2, [.ref 94, .long 0, .ref 95, .ref 116]), .inl (0, 8, .inl (fil 64 8)), .inl (3, 20, .inr (.inr (.inr (.inr (fun i => if i < 20 then some (96 + i) else none))))), .inl (0, 5, .inl (fun _ => 0)), .inl (0, 5, .inl (fun _ => 0)), .inl (0, 5, .inl (fun _ => 0)), .inl (0, 5, .inl (fun _ => 0)), .inl (0, 5, .inl (fun _ => 0)), .inl (0, 5, .inl (fun _ => 0)), .inl (0, 5, .inl (fun _ => 0)), .inl (0, 5, .inl (fun _ => 0)), .inl (0, 5, .inl (fun _ => 0)), .inl (0, 5, .inl (fun _ => 0)), .inl (0, 5, .inl (fun _ => 0)), .inl (0, 5, .inl (fun _ => 0)), .inl (0, 5, .inl (fun _ => 0)), .inl (0, 5, .inl (fun _ => 0)), .inl (0, 5, .inl (fun _ => 0)), .inl (0, 5, .inl (fun _ => 0)), .inl (0, 5, .inl (fun _ => 0)), .inl (0, 5, .inl (fun _ => 0)), .inl (0, 5, .inl (fun _ => 0)), .inl (0, 5, .inl (fun _ => 0)), .inl (0, 20, .inl (fun _ => 0)), .inr (6, [.ref 118, .int 0, .int 0, .int 0, .int 0]), .inl (0, 160, .inl (fun _ => 0)), .inr (4, [.ref 120, .ref 121, .ref 122, .ref 123, .ref 124, .ref 125, .int 0]), .inl (0, 8, .inl (fun _ => 0)), .inl (0, 8, .inl (fun _ => 0)), .inl (0, 8, .inl (fun _ => 0)), .inl (2, 8, .inl (fun _ => 0)), .inl (0, 8, .inl (fun _ => 0)), .inl (0, 8, .inl (fun _ => 0)), .inr (4, [.null, .null, .null, .null, .null, .null, .int 0])]
def KQ_X4_init_126 : VW := [.inr (8, [.ref 1, .ref 12, .ref 56, .ref 58, .ref 93, .ref 117, .ref 119, .null, .null, .int 0]), .inr (0, [.ref 2, .ref 3, .ref 4, .ref 5, .ref 6, .ref 7, .ref 8, .ref 9, .ref 10, .ref 11, .int 0, .int 0, .int 999]), .inl (0, 20, .inl (fun _ => 0)), .inl (0, 20, .inl (fun _ => 0)), .inl (0, 20, .inl (fun _ => 0)), .inl (0, 20, .inl (fun _ => 0)), .inl (1, 20, .inr (.inl (fun _ => 0))), .inl (0, 20, .inl (fun _ => 0)), .inl (0, 20, .inl (fun _ => 0)), .inl (0, 20, .inl (fun _ => 0)), .inl (1, 20, .inr (.inl (fun _ => 0))), .inl (0, 20, .inl (fun _ => 0)), .inr (3, [.ref 1, .ref 13, .ref 34, .ref 55, .int 2]), .inl (3, 20, .inr (.inr (.inr (.inr (fun i => if i < 20 then some (14 + i) else none))))), .inl (0, 20, .inl (fun _ => 0)), .inl (0, 20, .inl (fun _ => 0)), .inl (0, 20, .inl (fun _ => 0)), .inl (0, 20, .inl (fun _ => 0)), .inl (0, 20, .inl (fun _ => 0)), .inl (0, 20, .inl (fun _ => 0)), .inl (0, 20, .inl (fun _ => 0)), .inl (0, 20, .inl (fun _ => 0)), .inl (0, 20, .inl (fun _ => 0)), .inl (0, 20, .inl (fun _ => 0)), .inl (0, 20, .inl (fun _ => 0)), .inl (0, 20, .inl (fun _ => 0)), .inl (0, 20, .inl (fun _ => 0)), .inl (0, 20, .inl (fun _ => 0)), .inl (0, 20, .inl (fun _ => 0)), .inl (0, 20, .inl (fun _ => 0)), .inl (0, 20, .inl (fun _ => 0)), .inl (0, 20, .inl (fun _ => 0)), .inl (0, 20, .inl (fun _ => 0)), .inl (0, 20, .inl (fun _ => 0)), .inl (3, 20, .inr (.inr (.inr (.inr (fun i => if i < 20 then some (35 + i) else none))))), .inl (0, 20, .inl (fun _ => 0)), .inl (0, 20, .inl (fun _ => 0)), .inl (0, 20, .inl (fun _ => 0)), .inl (0, 20, .inl (fun _ => 0)), .inl (0, 20, .inl (fun _ => 0)), .inl (0, 20, .inl (fun _ => 0)), .inl (0, 20, .inl (fun _ => 0)), .inl (0, 20, .inl (fun _ => 0)), .inl (0, 20, .inl (fun _ => 0)), .inl (0, 20, .inl (fun _ => 0)), .inl (0, 20, .inl (fun _ => 0)), .inl (0, 20, .inl (fun _ => 0)), .inl (0, 20, .inl (fun _ => 0)), .inl (0, 20, .inl (fun _ => 0)), .inl (0, 20, .inl (fun _ => 0)), .inl (0, 20, .inl (fun _ => 0)), .inl (0, 20, .inl (fun _ => 0)), .inl (0, 20, .inl (fun _ => 0)), .inl (0, 20, .inl (fun _ => 0)), .inl (0, 20, .inl (fun _ => 0)), .inl (0, 9, .inl (fun _ => 0)), .inr (5, [.ref 1, .ref 57, .int 0, .int 0, .int 0]), .inl (2, 100, .inl (fun _ => 0)), .inr (1, [.ref 1, .ref 12, .ref 59, .ref 60, .ref 61, .ref 62, .ref 63, .ref 84, .ref 85, .int 0, .ref 86, .ref 89, .ref 92]), .inl (0, 8, .inl (fun _ => 0)), .inl (0, 8, .inl (fil 20000 8)), .inl (0, 5, .inl (fun _ => 0)), .inl (0, 5, .inl (fil 20000 5)), .inl (3, 20, .inr (.inr (.inr (.inr (fun i => if i < 20 then some (64 + i) else none))))), .inl (0, 8, .inl (fil 2 8)), .inl (0, 8, .inl (fil 2 8)), .inl (0, 8, .inl (fil 2 8)), .inl (0, 8, .inl (fil 2 8)), .inl (0, 8, .inl (fil 2 8)), .inl (0, 8, .inl (fil 2 8)), .inl (0, 8, .inl (fil 2 8)), .inl (0, 8, .inl (fil 2 8)), .inl (0, 8, .inl (fil 2 8)), .inl (0, 8, .inl (fil 2 8)), .inl (0, 8, .inl (fil 2 8)), .inl (0, 8, .inl (fil 2 8)), .inl (0, 8, .inl (fil 2 8)), .inl (0, 8, .inl (fil 2 8)), .inl (0, 8, .inl (fil 2 8)), .inl (0, 8, .inl (fil 2 8)), .inl (0, 8, .inl (fil 2 8)), .inl (0, 8, .inl (fil 2 8)), .inl (0, 8, .inl (fil 2 8)), .inl (0, 8, .inl (fil 2 8)), .inl (0, 12, .inl (fun _ => 0)), .inl (0, 12, .inl (fun _ => 0)), .inr (7, [.ref 87, .ref 88, .int 0]), .inl (0, 20, .inl (fun _ => 0)), .inl (0, 20, .inl (fun _ => 0)), .inr (7, [.ref 90, .ref 91, .int 0]), .inl (0, 20, .inl (fun _ => 0)), .inl (0, 20, .inl (fun _ => 0)), .inl (0, 20, .inl (fun _ => 0)), .inr (2, [.ref 94, .long 0, .ref 95, .ref 116]), .inl (0, 8, .inl (fil 64 8)), .inl (3, 20, .inr (.inr (.inr (.inr (fun i => if i < 20 then some (96 + i) else none))))), .inl (0, 5, .inl (fun _ => 0)), .inl (0, 5, .inl (fun _ => 0)), .inl (0, 5, .inl (fun _ => 0)), .inl (0, 5, .inl (fun _ => 0)), .inl (0, 5, .inl (fun _ => 0)), .inl (0, 5, .inl (fun _ => 0)), .inl (0, 5, .inl (fun _ => 0)), .inl (0, 5, .inl (fun _ => 0)), .inl (0, 5, .inl (fun _ => 0)), .inl (0, 5, .inl (fun _ => 0)), .inl (0, 5, .inl (fun _ => 0)), .inl (0, 5, .inl (fun _ => 0)), .inl (0, 5, .inl (fun _ => 0)), .inl (0, 5, .inl (fun _ => 0)), .inl (0, 5, .inl (fun _ => 0)), .inl (0, 5, .inl (fun _ => 0)), .inl (0, 5, .inl (fun _ => 0)), .inl (0, 5, .inl (fun _ => 0)), .inl (0, 5, .inl (fun _ => 0)), .inl (0, 5, .inl (fun _ => 0)), .inl (0, 20, .inl (fun _ => 0)), .inr (6, [.ref 118, .int 0, .int 0, .int 0, .int 0]), .inl (0, 160, .inl (fun _ => 0)), .inr (4, [.ref 120, .ref 121, .ref 122, .ref 123, .ref 124, .ref 125, .int 0]), .inl (0, 8, .inl (fun _ => 0)), .inl (0, 8, .inl (fun _ => 0)), .inl (0, 8, .inl (fun _ => 0)), .inl (2, 8, .inl (fun _ => 0)), .inl (0, 8, .inl (fun _ => 0)), .inl (0, 8, .inl (fun _ => 0)), .inr (4, [.ref 127, .ref 128, .ref 129, .ref 130, .ref 131, .ref 132, .int 0]), .inl (0, 8, .inl (fun _ => 0)), .inl (0, 8, .inl (fun _ => 0)), .inl (0, 8, .inl (fun _ => 0)), .inl (2, 8, .inl (fun _ => 0)), .inl (0, 8, .inl (fun _ => 0)), .inl (0, 8, .inl (fun _ => 0))]
set_option maxRecDepth 100000 in
set_option maxHeartbeats 40000000 in
theorem sp_X4_init_126 {G : vG} {l : Launch} : Sp G l yX4_init cX4_init 1 none 1 6 48 [.ref 126] KP_X4_init_126 (QV (fun w2 => w2 = KQ_X4_init_126)) := by
  refine Sp_of_R [(some (.ref 126))] [] rfl (by simp) rfl (Nat.le_of_ble_eq_true rfl) ?_
  refine R_aload_n (pc := 0) dX4_init_0 rfl rfl ?_
  refine R_objInit (pc := 1) wo_X4 dX4_init_1 (by decide) (by decide) ?_
  refine R_aload_n (pc := 4) dX4_init_4 rfl rfl ?_
  refine R_bipush (pc := 5) (v := 8) dX4_init_5 (by decide) ?_
  refine C_newI (pc := 7) 127 rfl (by decide) rfl (by decide) (by decide) (by decide) (by decide) dX4_init_7 ?_
  refine p_X4_9 (pc := 9) rfl rfl dX4_init_9 rfl (by decide) rfl rfl rfl ?_
  refine R_aload_n (pc := 12) dX4_init_12 rfl rfl ?_
  refine R_bipush (pc := 13) (v := 8) dX4_init_13 (by decide) ?_
  refine C_newI (pc := 15) 128 rfl (by decide) rfl (by decide) (by decide) (by decide) (by decide) dX4_init_15 ?_
  refine p_X4_15 (pc := 17) rfl rfl dX4_init_17 rfl (by decide) rfl rfl rfl ?_
  refine R_aload_n (pc := 20) dX4_init_20 rfl rfl ?_
  refine R_bipush (pc := 21) (v := 8) dX4_init_21 (by decide) ?_
  refine C_newI (pc := 23) 129 rfl (by decide) rfl (by decide) (by decide) (by decide) (by decide) dX4_init_23 ?_
  refine p_X4_18 (pc := 25) rfl rfl dX4_init_25 rfl (by decide) rfl rfl rfl ?_
  refine R_aload_n (pc := 28) dX4_init_28 rfl rfl ?_
  refine R_bipush (pc := 29) (v := 8) dX4_init_29 (by decide) ?_
  refine C_newZ (pc := 31) 130 rfl (by decide) rfl (by decide) (by decide) (by decide) (by decide) dX4_init_31 ?_
  refine p_X4_21 (pc := 33) rfl rfl dX4_init_33 rfl (by decide) rfl rfl rfl ?_
  refine R_aload_n (pc := 36) dX4_init_36 rfl rfl ?_
  refine R_bipush (pc := 37) (v := 8) dX4_init_37 (by decide) ?_
  refine C_newI (pc := 39) 131 rfl (by decide) rfl (by decide) (by decide) (by decide) (by decide) dX4_init_39 ?_
  refine p_X4_25 (pc := 41) rfl rfl dX4_init_41 rfl (by decide) rfl rfl rfl ?_
  refine R_aload_n (pc := 44) dX4_init_44 rfl rfl ?_
  refine R_bipush (pc := 45) (v := 8) dX4_init_45 (by decide) ?_
  refine C_newI (pc := 47) 132 rfl (by decide) rfl (by decide) (by decide) (by decide) (by decide) dX4_init_47 ?_
  refine p_X4_28 (pc := 49) rfl rfl dX4_init_49 rfl (by decide) rfl rfl rfl ?_
  exact R_vret (pc := 52) dX4_init_52 rfl (by decide) (by decide) ⟨rfl, rfl⟩
def KP_X4_init_133 : VW := [.inr (8, [.ref 1, .ref 12, .ref 56, .ref 58, .ref 93, .ref 117, .ref 119, .ref 126, .null, .int 0]), .inr (0, [.ref 2, .ref 3, .ref 4, .ref 5, .ref 6, .ref 7, .ref 8, .ref 9, .ref 10, .ref 11, .int 0, .int 0, .int 999]), .inl (0, 20, .inl (fun _ => 0)), .inl (0, 20, .inl (fun _ => 0)), .inl (0, 20, .inl (fun _ => 0)), .inl (0, 20, .inl (fun _ => 0)), .inl (1, 20, .inr (.inl (fun _ => 0))), .inl (0, 20, .inl (fun _ => 0)), .inl (0, 20, .inl (fun _ => 0)), .inl (0, 20, .inl (fun _ => 0)), .inl (1, 20, .inr (.inl (fun _ => 0))), .inl (0, 20, .inl (fun _ => 0)), .inr (3, [.ref 1, .ref 13, .ref 34, .ref 55, .int 2]), .inl (3, 20, .inr (.inr (.inr (.inr (fun i => if i < 20 then some (14 + i) else none))))), .inl (0, 20, .inl (fun _ => 0)), .inl (0, 20, .inl (fun _ => 0)), .inl (0, 20, .inl (fun _ => 0)), .inl (0, 20, .inl (fun _ => 0)), .inl (0, 20, .inl (fun _ => 0)), .inl (0, 20, .inl (fun _ => 0)), .inl (0, 20, .inl (fun _ => 0)), .inl (0, 20, .inl (fun _ => 0)), .inl (0, 20, .inl (fun _ => 0)), .inl (0, 20, .inl (fun _ => 0)), .inl (0, 20, .inl (fun _ => 0)), .inl (0, 20, .inl (fun _ => 0)), .inl (0, 20, .inl (fun _ => 0)), .inl (0, 20, .inl (fun _ => 0)), .inl (0, 20, .inl (fun _ => 0)), .inl (0, 20, .inl (fun _ => 0)), .inl (0, 20, .inl (fun _ => 0)), .inl (0, 20, .inl (fun _ => 0)), .inl (0, 20, .inl (fun _ => 0)), .inl (0, 20, .inl (fun _ => 0)), .inl (3, 20, .inr (.inr (.inr (.inr (fun i => if i < 20 then some (35 + i) else none))))), .inl (0, 20, .inl (fun _ => 0)), .inl (0, 20, .inl (fun _ => 0)), .inl (0, 20, .inl (fun _ => 0)), .inl (0, 20, .inl (fun _ => 0)), .inl (0, 20, .inl (fun _ => 0)), .inl (0, 20, .inl (fun _ => 0)), .inl (0, 20, .inl (fun _ => 0)), .inl (0, 20, .inl (fun _ => 0)), .inl (0, 20, .inl (fun _ => 0)), .inl (0, 20, .inl (fun _ => 0)), .inl (0, 20, .inl (fun _ => 0)), .inl (0, 20, .inl (fun _ => 0)), .inl (0, 20, .inl (fun _ => 0)), .inl (0, 20, .inl (fun _ => 0)), .inl (0, 20, .inl (fun _ => 0)), .inl (0, 20, .inl (fun _ => 0)), .inl (0, 20, .inl (fun _ => 0)), .inl (0, 20, .inl (fun _ => 0)), .inl (0, 20, .inl (fun _ => 0)), .inl (0, 20, .inl (fun _ => 0)), .inl (0, 9, .inl (fun _ => 0)), .inr (5, [.ref 1, .ref 57, .int 0, .int 0, .int 0]), .inl (2, 100, .inl (fun _ => 0)), .inr (1, [.ref 1, .ref 12, .ref 59, .ref 60, .ref 61, .ref 62, .ref 63, .ref 84, .ref 85, .int 0, .ref 86, .ref 89, .ref 92]), .inl (0, 8, .inl (fun _ => 0)), .inl (0, 8, .inl (fil 20000 8)), .inl (0, 5, .inl (fun _ => 0)), .inl (0, 5, .inl (fil 20000 5)), .inl (3, 20, .inr (.inr (.inr (.inr (fun i => if i < 20 then some (64 + i) else none))))), .inl (0, 8, .inl (fil 2 8)), .inl (0, 8, .inl (fil 2 8)), .inl (0, 8, .inl (fil 2 8)), .inl (0, 8, .inl (fil 2 8)), .inl (0, 8, .inl (fil 2 8)), .inl (0, 8, .inl (fil 2 8)), .inl (0, 8, .inl (fil 2 8)), .inl (0, 8, .inl (fil 2 8)), .inl (0, 8, .inl (fil 2 8)), .inl (0, 8, .inl (fil 2 8)), .inl (0, 8, .inl (fil 2 8)), .inl (0, 8, .inl (fil 2 8)), .inl (0, 8, .inl (fil 2 8)), .inl (0, 8, .inl (fil 2 8)), .inl (0, 8, .inl (fil 2 8)), .inl (0, 8, .inl (fil 2 8)), .inl (0, 8, .inl (fil 2 8)), .inl (0, 8, .inl (fil 2 8)), .inl (0, 8, .inl (fil 2 8)), .inl (0, 8, .inl (fil 2 8)), .inl (0, 12, .inl (fun _ => 0)), .inl (0, 12, .inl (fun _ => 0)), .inr (7, [.ref 87, .ref 88, .int 0]), .inl (0, 20, .inl (fun _ => 0)), .inl (0, 20, .inl (fun _ => 0)), .inr (7, [.ref 90, .ref 91, .int 0]), .inl (0, 20, .inl (fun _ => 0)), .inl (0, 20, .inl (fun _ => 0)), .inl (0, 20, .inl (fun _ => 0)), .inr (2, [.ref 94, .long 0, .ref 95, .ref 116]), .inl (0, 8, .inl (fil 64 8)), .inl (3, 20, .inr (.inr (.inr (.inr (fun i => if i < 20 then some (96 + i) else none))))), .inl (0, 5, .inl (fun _ => 0)), .inl (0, 5, .inl (fun _ => 0)), .inl (0, 5, .inl (fun _ => 0)), .inl (0, 5, .inl (fun _ => 0)), .inl (0, 5, .inl (fun _ => 0)), .inl (0, 5, .inl (fun _ => 0)), .inl (0, 5, .inl (fun _ => 0)), .inl (0, 5, .inl (fun _ => 0)), .inl (0, 5, .inl (fun _ => 0)), .inl (0, 5, .inl (fun _ => 0)), .inl (0, 5, .inl (fun _ => 0)), .inl (0, 5, .inl (fun _ => 0)), .inl (0, 5, .inl (fun _ => 0)), .inl (0, 5, .inl (fun _ => 0)), .inl (0, 5, .inl (fun _ => 0)), .inl (0, 5, .inl (fun _ => 0)), .inl (0, 5, .inl (fun _ => 0)), .inl (0, 5, .inl (fun _ => 0)), .inl (0, 5, .inl (fun _ => 0)), .inl (0, 5, .inl (fun _ => 0)), .inl (0, 20, .inl (fun _ => 0)), .inr (6, [.ref 118, .int 0, .int 0, .int 0, .int 0]), .inl (0, 160, .inl (fun _ => 0)), .inr (4, [.ref 120, .ref 121, .ref 122, .ref 123, .ref 124, .ref 125, .int 0]), .inl (0, 8, .inl (fun _ => 0)), .inl (0, 8, .inl (fun _ => 0)), .inl (0, 8, .inl (fun _ => 0)), .inl (2, 8, .inl (fun _ => 0)), .inl (0, 8, .inl (fun _ => 0)), .inl (0, 8, .inl (fun _ => 0)), .inr (4, [.ref 127, .ref 128, .ref 129, .ref 130, .ref 131, .ref 132, .int 0]), .inl (0, 8, .inl (fun _ => 0)), .inl (0, 8, .inl (fun _ => 0)), .inl (0, 8, .inl (fun _ => 0)), .inl (2, 8, .inl (fun _ => 0)), .inl (0, 8, .inl (fun _ => 0)), .inl (0, 8, .inl (fun _ => 0)), .inr (4, [.null, .null, .null, .null, .null, .null, .int 0])]
def KQ_X4_init_133 : VW := [.inr (8, [.ref 1, .ref 12, .ref 56, .ref 58, .ref 93, .ref 117, .ref 119, .ref 126, .null, .int 0]), .inr (0, [.ref 2, .ref 3, .ref 4, .ref 5, .ref 6, .ref 7, .ref 8, .ref 9, .ref 10, .ref 11, .int 0, .int 0, .int 999]), .inl (0, 20, .inl (fun _ => 0)), .inl (0, 20, .inl (fun _ => 0)), .inl (0, 20, .inl (fun _ => 0)), .inl (0, 20, .inl (fun _ => 0)), .inl (1, 20, .inr (.inl (fun _ => 0))), .inl (0, 20, .inl (fun _ => 0)), .inl (0, 20, .inl (fun _ => 0)), .inl (0, 20, .inl (fun _ => 0)), .inl (1, 20, .inr (.inl (fun _ => 0))), .inl (0, 20, .inl (fun _ => 0)), .inr (3, [.ref 1, .ref 13, .ref 34, .ref 55, .int 2]), .inl (3, 20, .inr (.inr (.inr (.inr (fun i => if i < 20 then some (14 + i) else none))))), .inl (0, 20, .inl (fun _ => 0)), .inl (0, 20, .inl (fun _ => 0)), .inl (0, 20, .inl (fun _ => 0)), .inl (0, 20, .inl (fun _ => 0)), .inl (0, 20, .inl (fun _ => 0)), .inl (0, 20, .inl (fun _ => 0)), .inl (0, 20, .inl (fun _ => 0)), .inl (0, 20, .inl (fun _ => 0)), .inl (0, 20, .inl (fun _ => 0)), .inl (0, 20, .inl (fun _ => 0)), .inl (0, 20, .inl (fun _ => 0)), .inl (0, 20, .inl (fun _ => 0)), .inl (0, 20, .inl (fun _ => 0)), .inl (0, 20, .inl (fun _ => 0)), .inl (0, 20, .inl (fun _ => 0)), .inl (0, 20, .inl (fun _ => 0)), .inl (0, 20, .inl (fun _ => 0)), .inl (0, 20, .inl (fun _ => 0)), .inl (0, 20, .inl (fun _ => 0)), .inl (0, 20, .inl (fun _ => 0)), .inl (3, 20, .inr (.inr (.inr (.inr (fun i => if i < 20 then some (35 + i) else none))))), .inl (0, 20, .inl (fun _ => 0)), .inl (0, 20, .inl (fun _ => 0)), .inl (0, 20, .inl (fun _ => 0)), .inl (0, 20, .inl (fun _ => 0)), .inl (0, 20, .inl (fun _ => 0)), .inl (0, 20, .inl (fun _ => 0)), .inl (0, 20, .inl (fun _ => 0)), .inl (0, 20, .inl (fun _ => 0)), .inl (0, 20, .inl (fun _ => 0)), .inl (0, 20, .inl (fun _ => 0)), .inl (0, 20, .inl (fun _ => 0)), .inl (0, 20, .inl (fun _ => 0)), .inl (0, 20, .inl (fun _ => 0)), .inl (0, 20, .inl (fun _ => 0)), .inl (0, 20, .inl (fun _ => 0)), .inl (0, 20, .inl (fun _ => 0)), .inl (0, 20, .inl (fun _ => 0)), .inl (0, 20, .inl (fun _ => 0)), .inl (0, 20, .inl (fun _ => 0)), .inl (0, 20, .inl (fun _ => 0)), .inl (0, 9, .inl (fun _ => 0)), .inr (5, [.ref 1, .ref 57, .int 0, .int 0, .int 0]), .inl (2, 100, .inl (fun _ => 0)), .inr (1, [.ref 1, .ref 12, .ref 59, .ref 60, .ref 61, .ref 62, .ref 63, .ref 84, .ref 85, .int 0, .ref 86, .ref 89, .ref 92]), .inl (0, 8, .inl (fun _ => 0)), .inl (0, 8, .inl (fil 20000 8)), .inl (0, 5, .inl (fun _ => 0)), .inl (0, 5, .inl (fil 20000 5)), .inl (3, 20, .inr (.inr (.inr (.inr (fun i => if i < 20 then some (64 + i) else none))))), .inl (0, 8, .inl (fil 2 8)), .inl (0, 8, .inl (fil 2 8)), .inl (0, 8, .inl (fil 2 8)), .inl (0, 8, .inl (fil 2 8)), .inl (0, 8, .inl (fil 2 8)), .inl (0, 8, .inl (fil 2 8)), .inl (0, 8, .inl (fil 2 8)), .inl (0, 8, .inl (fil 2 8)), .inl (0, 8, .inl (fil 2 8)), .inl (0, 8, .inl (fil 2 8)), .inl (0, 8, .inl (fil 2 8)), .inl (0, 8, .inl (fil 2 8)), .inl (0, 8, .inl (fil 2 8)), .inl (0, 8, .inl (fil 2 8)), .inl (0, 8, .inl (fil 2 8)), .inl (0, 8, .inl (fil 2 8)), .inl (0, 8, .inl (fil 2 8)), .inl (0, 8, .inl (fil 2 8)), .inl (0, 8, .inl (fil 2 8)), .inl (0, 8, .inl (fil 2 8)), .inl (0, 12, .inl (fun _ => 0)), .inl (0, 12, .inl (fun _ => 0)), .inr (7, [.ref 87, .ref 88, .int 0]), .inl (0, 20, .inl (fun _ => 0)), .inl (0, 20, .inl (fun _ => 0)), .inr (7, [.ref 90, .ref 91, .int 0]), .inl (0, 20, .inl (fun _ => 0)), .inl (0, 20, .inl (fun _ => 0)), .inl (0, 20, .inl (fun _ => 0)), .inr (2, [.ref 94, .long 0, .ref 95, .ref 116]), .inl (0, 8, .inl (fil 64 8)), .inl (3, 20, .inr (.inr (.inr (.inr (fun i => if i < 20 then some (96 + i) else none))))), .inl (0, 5, .inl (fun _ => 0)), .inl (0, 5, .inl (fun _ => 0)), .inl (0, 5, .inl (fun _ => 0)), .inl (0, 5, .inl (fun _ => 0)), .inl (0, 5, .inl (fun _ => 0)), .inl (0, 5, .inl (fun _ => 0)), .inl (0, 5, .inl (fun _ => 0)), .inl (0, 5, .inl (fun _ => 0)), .inl (0, 5, .inl (fun _ => 0)), .inl (0, 5, .inl (fun _ => 0)), .inl (0, 5, .inl (fun _ => 0)), .inl (0, 5, .inl (fun _ => 0)), .inl (0, 5, .inl (fun _ => 0)), .inl (0, 5, .inl (fun _ => 0)), .inl (0, 5, .inl (fun _ => 0)), .inl (0, 5, .inl (fun _ => 0)), .inl (0, 5, .inl (fun _ => 0)), .inl (0, 5, .inl (fun _ => 0)), .inl (0, 5, .inl (fun _ => 0)), .inl (0, 5, .inl (fun _ => 0)), .inl (0, 20, .inl (fun _ => 0)), .inr (6, [.ref 118, .int 0, .int 0, .int 0, .int 0]), .inl (0, 160, .inl (fun _ => 0)), .inr (4, [.ref 120, .ref 121, .ref 122, .ref 123, .ref 124, .ref 125, .int 0]), .inl (0, 8, .inl (fun _ => 0)), .inl (0, 8, .inl (fun _ => 0)), .inl (0, 8, .inl (fun _ => 0)), .inl (2, 8, .inl (fun _ => 0)), .inl (0, 8, .inl (fun _ => 0)), .inl (0, 8, .inl (fun _ => 0)), .inr (4, [.ref 127, .ref 128, .ref 129, .ref 130, .ref 131, .ref 132, .int 0]), .inl (0, 8, .inl (fun _ => 0)), .inl (0, 8, .inl (fun _ => 0)), .inl (0, 8, .inl (fun _ => 0)), .inl (2, 8, .inl (fun _ => 0)), .inl (0, 8, .inl (fun _ => 0)), .inl (0, 8, .inl (fun _ => 0)), .inr (4, [.ref 134, .ref 135, .ref 136, .ref 137, .ref 138, .ref 139, .int 0]), .inl (0, 8, .inl (fun _ => 0)), .inl (0, 8, .inl (fun _ => 0)), .inl (0, 8, .inl (fun _ => 0)), .inl (2, 8, .inl (fun _ => 0)), .inl (0, 8, .inl (fun _ => 0)), .inl (0, 8, .inl (fun _ => 0))]
set_option maxRecDepth 100000 in
set_option maxHeartbeats 40000000 in
theorem sp_X4_init_133 {G : vG} {l : Launch} : Sp G l yX4_init cX4_init 1 none 1 6 48 [.ref 133] KP_X4_init_133 (QV (fun w2 => w2 = KQ_X4_init_133)) := by
  refine Sp_of_R [(some (.ref 133))] [] rfl (by simp) rfl (Nat.le_of_ble_eq_true rfl) ?_
  refine R_aload_n (pc := 0) dX4_init_0 rfl rfl ?_
  refine R_objInit (pc := 1) wo_X4 dX4_init_1 (by decide) (by decide) ?_
  refine R_aload_n (pc := 4) dX4_init_4 rfl rfl ?_
  refine R_bipush (pc := 5) (v := 8) dX4_init_5 (by decide) ?_
  refine C_newI (pc := 7) 134 rfl (by decide) rfl (by decide) (by decide) (by decide) (by decide) dX4_init_7 ?_
  refine p_X4_9 (pc := 9) rfl rfl dX4_init_9 rfl (by decide) rfl rfl rfl ?_
  refine R_aload_n (pc := 12) dX4_init_12 rfl rfl ?_
  refine R_bipush (pc := 13) (v := 8) dX4_init_13 (by decide) ?_
  refine C_newI (pc := 15) 135 rfl (by decide) rfl (by decide) (by decide) (by decide) (by decide) dX4_init_15 ?_
  refine p_X4_15 (pc := 17) rfl rfl dX4_init_17 rfl (by decide) rfl rfl rfl ?_
  refine R_aload_n (pc := 20) dX4_init_20 rfl rfl ?_
  refine R_bipush (pc := 21) (v := 8) dX4_init_21 (by decide) ?_
  refine C_newI (pc := 23) 136 rfl (by decide) rfl (by decide) (by decide) (by decide) (by decide) dX4_init_23 ?_
  refine p_X4_18 (pc := 25) rfl rfl dX4_init_25 rfl (by decide) rfl rfl rfl ?_
  refine R_aload_n (pc := 28) dX4_init_28 rfl rfl ?_
  refine R_bipush (pc := 29) (v := 8) dX4_init_29 (by decide) ?_
  refine C_newZ (pc := 31) 137 rfl (by decide) rfl (by decide) (by decide) (by decide) (by decide) dX4_init_31 ?_
  refine p_X4_21 (pc := 33) rfl rfl dX4_init_33 rfl (by decide) rfl rfl rfl ?_
  refine R_aload_n (pc := 36) dX4_init_36 rfl rfl ?_
  refine R_bipush (pc := 37) (v := 8) dX4_init_37 (by decide) ?_
  refine C_newI (pc := 39) 138 rfl (by decide) rfl (by decide) (by decide) (by decide) (by decide) dX4_init_39 ?_
  refine p_X4_25 (pc := 41) rfl rfl dX4_init_41 rfl (by decide) rfl rfl rfl ?_
  refine R_aload_n (pc := 44) dX4_init_44 rfl rfl ?_
  refine R_bipush (pc := 45) (v := 8) dX4_init_45 (by decide) ?_
  refine C_newI (pc := 47) 139 rfl (by decide) rfl (by decide) (by decide) (by decide) (by decide) dX4_init_47 ?_
  refine p_X4_28 (pc := 49) rfl rfl dX4_init_49 rfl (by decide) rfl rfl rfl ?_
  exact R_vret (pc := 52) dX4_init_52 rfl (by decide) (by decide) ⟨rfl, rfl⟩
def KP_X0_init_1 : VW := [.inr (8, [.null, .null, .null, .null, .null, .null, .null, .null, .null, .int 0]), .inr (0, [.null, .null, .null, .null, .null, .null, .null, .null, .null, .null, .int 0, .int 0, .int 0])]
def KQ_X0_init_1 : VW := [.inr (8, [.null, .null, .null, .null, .null, .null, .null, .null, .null, .int 0]), .inr (0, [.ref 2, .ref 3, .ref 4, .ref 5, .ref 6, .ref 7, .ref 8, .ref 9, .ref 10, .ref 11, .int 0, .int 0, .int 999]), .inl (0, 20, .inl (fun _ => 0)), .inl (0, 20, .inl (fun _ => 0)), .inl (0, 20, .inl (fun _ => 0)), .inl (0, 20, .inl (fun _ => 0)), .inl (1, 20, .inr (.inl (fun _ => 0))), .inl (0, 20, .inl (fun _ => 0)), .inl (0, 20, .inl (fun _ => 0)), .inl (0, 20, .inl (fun _ => 0)), .inl (1, 20, .inr (.inl (fun _ => 0))), .inl (0, 20, .inl (fun _ => 0))]
set_option maxRecDepth 100000 in
set_option maxHeartbeats 40000000 in
theorem sp_X0_init_1 {G : vG} {l : Launch} : Sp G l yX0_init cX0_init 1 none 1 10 200 [.ref 1] KP_X0_init_1 (QV (fun w2 => w2 = KQ_X0_init_1)) := by
  refine Sp_of_R [(some (.ref 1))] [] rfl (by simp) rfl (Nat.le_of_ble_eq_true rfl) ?_
  refine R_aload_n (pc := 0) dX0_init_0 rfl rfl ?_
  refine R_objInit (pc := 1) wo_X0 dX0_init_1 (by decide) (by decide) ?_
  refine R_aload_n (pc := 4) dX0_init_4 rfl rfl ?_
  refine R_bipush (pc := 5) (v := 20) dX0_init_5 (by decide) ?_
  refine C_newI (pc := 7) 2 rfl (by decide) rfl (by decide) (by decide) (by decide) (by decide) dX0_init_7 ?_
  refine p_X0_9 (pc := 9) rfl rfl dX0_init_9 rfl (by decide) rfl rfl rfl ?_
  refine R_aload_n (pc := 12) dX0_init_12 rfl rfl ?_
  refine R_bipush (pc := 13) (v := 20) dX0_init_13 (by decide) ?_
  refine C_newI (pc := 15) 3 rfl (by decide) rfl (by decide) (by decide) (by decide) (by decide) dX0_init_15 ?_
  refine p_X0_15 (pc := 17) rfl rfl dX0_init_17 rfl (by decide) rfl rfl rfl ?_
  refine R_aload_n (pc := 20) dX0_init_20 rfl rfl ?_
  refine R_bipush (pc := 21) (v := 20) dX0_init_21 (by decide) ?_
  refine C_newI (pc := 23) 4 rfl (by decide) rfl (by decide) (by decide) (by decide) (by decide) dX0_init_23 ?_
  refine p_X0_18 (pc := 25) rfl rfl dX0_init_25 rfl (by decide) rfl rfl rfl ?_
  refine R_aload_n (pc := 28) dX0_init_28 rfl rfl ?_
  refine R_bipush (pc := 29) (v := 20) dX0_init_29 (by decide) ?_
  refine C_newI (pc := 31) 5 rfl (by decide) rfl (by decide) (by decide) (by decide) (by decide) dX0_init_31 ?_
  refine p_X0_21 (pc := 33) rfl rfl dX0_init_33 rfl (by decide) rfl rfl rfl ?_
  refine R_aload_n (pc := 36) dX0_init_36 rfl rfl ?_
  refine R_bipush (pc := 37) (v := 20) dX0_init_37 (by decide) ?_
  refine C_newJ (pc := 39) 6 rfl (by decide) rfl (by decide) (by decide) (by decide) (by decide) dX0_init_39 ?_
  refine p_X0_24 (pc := 41) rfl rfl dX0_init_41 rfl (by decide) rfl rfl rfl ?_
  refine R_aload_n (pc := 44) dX0_init_44 rfl rfl ?_
  refine R_bipush (pc := 45) (v := 20) dX0_init_45 (by decide) ?_
  refine C_newI (pc := 47) 7 rfl (by decide) rfl (by decide) (by decide) (by decide) (by decide) dX0_init_47 ?_
  refine p_X0_28 (pc := 49) rfl rfl dX0_init_49 rfl (by decide) rfl rfl rfl ?_
  refine R_aload_n (pc := 52) dX0_init_52 rfl rfl ?_
  refine R_bipush (pc := 53) (v := 20) dX0_init_53 (by decide) ?_
  refine C_newI (pc := 55) 8 rfl (by decide) rfl (by decide) (by decide) (by decide) (by decide) dX0_init_55 ?_
  refine p_X0_31 (pc := 57) rfl rfl dX0_init_57 rfl (by decide) rfl rfl rfl ?_
  refine R_aload_n (pc := 60) dX0_init_60 rfl rfl ?_
  refine R_bipush (pc := 61) (v := 20) dX0_init_61 (by decide) ?_
  refine C_newI (pc := 63) 9 rfl (by decide) rfl (by decide) (by decide) (by decide) (by decide) dX0_init_63 ?_
  refine p_X0_34 (pc := 65) rfl rfl dX0_init_65 rfl (by decide) rfl rfl rfl ?_
  refine R_aload_n (pc := 68) dX0_init_68 rfl rfl ?_
  refine R_bipush (pc := 69) (v := 20) dX0_init_69 (by decide) ?_
  refine C_newJ (pc := 71) 10 rfl (by decide) rfl (by decide) (by decide) (by decide) (by decide) dX0_init_71 ?_
  refine p_X0_37 (pc := 73) rfl rfl dX0_init_73 rfl (by decide) rfl rfl rfl ?_
  refine R_aload_n (pc := 76) dX0_init_76 rfl rfl ?_
  refine R_bipush (pc := 77) (v := 20) dX0_init_77 (by decide) ?_
  refine C_newI (pc := 79) 11 rfl (by decide) rfl (by decide) (by decide) (by decide) (by decide) dX0_init_79 ?_
  refine p_X0_40 (pc := 81) rfl rfl dX0_init_81 rfl (by decide) rfl rfl rfl ?_
  refine R_aload_n (pc := 84) dX0_init_84 rfl rfl ?_
  refine R_sipush (pc := 85) (v := 999) dX0_init_85 (by decide) ?_
  refine p_X0_43 (pc := 88) rfl dX0_init_88 rfl (by decide) rfl rfl rfl ?_
  exact R_vret (pc := 91) dX0_init_91 rfl (by decide) (by decide) ⟨rfl, rfl⟩
def KP_X5_init_56 : VW := [.inr (8, [.ref 1, .ref 12, .null, .null, .null, .null, .null, .null, .null, .int 0]), .inr (0, [.ref 2, .ref 3, .ref 4, .ref 5, .ref 6, .ref 7, .ref 8, .ref 9, .ref 10, .ref 11, .int 0, .int 0, .int 999]), .inl (0, 20, .inl (fun _ => 0)), .inl (0, 20, .inl (fun _ => 0)), .inl (0, 20, .inl (fun _ => 0)), .inl (0, 20, .inl (fun _ => 0)), .inl (1, 20, .inr (.inl (fun _ => 0))), .inl (0, 20, .inl (fun _ => 0)), .inl (0, 20, .inl (fun _ => 0)), .inl (0, 20, .inl (fun _ => 0)), .inl (1, 20, .inr (.inl (fun _ => 0))), .inl (0, 20, .inl (fun _ => 0)), .inr (3, [.ref 1, .ref 13, .ref 34, .ref 55, .int 2]), .inl (3, 20, .inr (.inr (.inr (.inr (fun i => if i < 20 then some (14 + i) else none))))), .inl (0, 20, .inl (fun _ => 0)), .inl (0, 20, .inl (fun _ => 0)), .inl (0, 20, .inl (fun _ => 0)), .inl (0, 20, .inl (fun _ => 0)), .inl (0, 20, .inl (fun _ => 0)), .inl (0, 20, .inl (fun _ => 0)), .inl (0, 20, .inl (fun _ => 0)), .inl (0, 20, .inl (fun _ => 0)), .inl (0, 20, .inl (fun _ => 0)), .inl (0, 20, .inl (fun _ => 0)), .inl (0, 20, .inl (fun _ => 0)), .inl (0, 20, .inl (fun _ => 0)), .inl (0, 20, .inl (fun _ => 0)), .inl (0, 20, .inl (fun _ => 0)), .inl (0, 20, .inl (fun _ => 0)), .inl (0, 20, .inl (fun _ => 0)), .inl (0, 20, .inl (fun _ => 0)), .inl (0, 20, .inl (fun _ => 0)), .inl (0, 20, .inl (fun _ => 0)), .inl (0, 20, .inl (fun _ => 0)), .inl (3, 20, .inr (.inr (.inr (.inr (fun i => if i < 20 then some (35 + i) else none))))), .inl (0, 20, .inl (fun _ => 0)), .inl (0, 20, .inl (fun _ => 0)), .inl (0, 20, .inl (fun _ => 0)), .inl (0, 20, .inl (fun _ => 0)), .inl (0, 20, .inl (fun _ => 0)), .inl (0, 20, .inl (fun _ => 0)), .inl (0, 20, .inl (fun _ => 0)), .inl (0, 20, .inl (fun _ => 0)), .inl (0, 20, .inl (fun _ => 0)), .inl (0, 20, .inl (fun _ => 0)), .inl (0, 20, .inl (fun _ => 0)), .inl (0, 20, .inl (fun _ => 0)), .inl (0, 20, .inl (fun _ => 0)), .inl (0, 20, .inl (fun _ => 0)), .inl (0, 20, .inl (fun _ => 0)), .inl (0, 20, .inl (fun _ => 0)), .inl (0, 20, .inl (fun _ => 0)), .inl (0, 20, .inl (fun _ => 0)), .inl (0, 20, .inl (fun _ => 0)), .inl (0, 20, .inl (fun _ => 0)), .inl (0, 9, .inl (fun _ => 0)), .inr (5, [.null, .null, .int 0, .int 0, .int 0])]
def KQ_X5_init_56 : VW := [.inr (8, [.ref 1, .ref 12, .null, .null, .null, .null, .null, .null, .null, .int 0]), .inr (0, [.ref 2, .ref 3, .ref 4, .ref 5, .ref 6, .ref 7, .ref 8, .ref 9, .ref 10, .ref 11, .int 0, .int 0, .int 999]), .inl (0, 20, .inl (fun _ => 0)), .inl (0, 20, .inl (fun _ => 0)), .inl (0, 20, .inl (fun _ => 0)), .inl (0, 20, .inl (fun _ => 0)), .inl (1, 20, .inr (.inl (fun _ => 0))), .inl (0, 20, .inl (fun _ => 0)), .inl (0, 20, .inl (fun _ => 0)), .inl (0, 20, .inl (fun _ => 0)), .inl (1, 20, .inr (.inl (fun _ => 0))), .inl (0, 20, .inl (fun _ => 0)), .inr (3, [.ref 1, .ref 13, .ref 34, .ref 55, .int 2]), .inl (3, 20, .inr (.inr (.inr (.inr (fun i => if i < 20 then some (14 + i) else none))))), .inl (0, 20, .inl (fun _ => 0)), .inl (0, 20, .inl (fun _ => 0)), .inl (0, 20, .inl (fun _ => 0)), .inl (0, 20, .inl (fun _ => 0)), .inl (0, 20, .inl (fun _ => 0)), .inl (0, 20, .inl (fun _ => 0)), .inl (0, 20, .inl (fun _ => 0)), .inl (0, 20, .inl (fun _ => 0)), .inl (0, 20, .inl (fun _ => 0)), .inl (0, 20, .inl (fun _ => 0)), .inl (0, 20, .inl (fun _ => 0)), .inl (0, 20, .inl (fun _ => 0)), .inl (0, 20, .inl (fun _ => 0)), .inl (0, 20, .inl (fun _ => 0)), .inl (0, 20, .inl (fun _ => 0)), .inl (0, 20, .inl (fun _ => 0)), .inl (0, 20, .inl (fun _ => 0)), .inl (0, 20, .inl (fun _ => 0)), .inl (0, 20, .inl (fun _ => 0)), .inl (0, 20, .inl (fun _ => 0)), .inl (3, 20, .inr (.inr (.inr (.inr (fun i => if i < 20 then some (35 + i) else none))))), .inl (0, 20, .inl (fun _ => 0)), .inl (0, 20, .inl (fun _ => 0)), .inl (0, 20, .inl (fun _ => 0)), .inl (0, 20, .inl (fun _ => 0)), .inl (0, 20, .inl (fun _ => 0)), .inl (0, 20, .inl (fun _ => 0)), .inl (0, 20, .inl (fun _ => 0)), .inl (0, 20, .inl (fun _ => 0)), .inl (0, 20, .inl (fun _ => 0)), .inl (0, 20, .inl (fun _ => 0)), .inl (0, 20, .inl (fun _ => 0)), .inl (0, 20, .inl (fun _ => 0)), .inl (0, 20, .inl (fun _ => 0)), .inl (0, 20, .inl (fun _ => 0)), .inl (0, 20, .inl (fun _ => 0)), .inl (0, 20, .inl (fun _ => 0)), .inl (0, 20, .inl (fun _ => 0)), .inl (0, 20, .inl (fun _ => 0)), .inl (0, 20, .inl (fun _ => 0)), .inl (0, 20, .inl (fun _ => 0)), .inl (0, 9, .inl (fun _ => 0)), .inr (5, [.ref 1, .ref 57, .int 0, .int 0, .int 0]), .inl (2, 100, .inl (fun _ => 0))]
set_option maxRecDepth 100000 in
set_option maxHeartbeats 40000000 in
theorem sp_X5_init_56 {G : vG} {l : Launch} : Sp G l yX5_init cX5_init 2 none 1 1 100 [.ref 56, .ref 1] KP_X5_init_56 (QV (fun w2 => w2 = KQ_X5_init_56)) := by
  refine Sp_of_R [(some (.ref 56)), (some (.ref 1))] [] rfl (by simp) rfl (Nat.le_of_ble_eq_true rfl) ?_
  refine R_aload_n (pc := 0) dX5_init_0 rfl rfl ?_
  refine R_objInit (pc := 1) wo_X5 dX5_init_1 (by decide) (by decide) ?_
  refine R_aload_n (pc := 4) dX5_init_4 rfl rfl ?_
  refine R_bipush (pc := 5) (v := 100) dX5_init_5 (by decide) ?_
  refine C_newZ (pc := 7) 57 rfl (by decide) rfl (by decide) (by decide) (by decide) (by decide) dX5_init_7 ?_
  refine p_X5_9 (pc := 9) rfl rfl dX5_init_9 rfl (by decide) rfl rfl rfl ?_
  refine R_aload_n (pc := 12) dX5_init_12 rfl rfl ?_
  refine R_aload_n (pc := 13) dX5_init_13 rfl rfl ?_
  refine p_X5_15 (pc := 14) rfl rfl dX5_init_14 rfl (by decide) rfl rfl rfl ?_
  exact R_vret (pc := 17) dX5_init_17 rfl (by decide) (by decide) ⟨rfl, rfl⟩
def KP_X6_init_117 : VW := [.inr (8, [.ref 1, .ref 12, .ref 56, .ref 58, .ref 93, .null, .null, .null, .null, .int 0]), .inr (0, [.ref 2, .ref 3, .ref 4, .ref 5, .ref 6, .ref 7, .ref 8, .ref 9, .ref 10, .ref 11, .int 0, .int 0, .int 999]), .inl (0, 20, .inl (fun _ => 0)), .inl (0, 20, .inl (fun _ => 0)), .inl (0, 20, .inl (fun _ => 0)), .inl (0, 20, .inl (fun _ => 0)), .inl (1, 20, .inr (.inl (fun _ => 0))), .inl (0, 20, .inl (fun _ => 0)), .inl (0, 20, .inl (fun _ => 0)), .inl (0, 20, .inl (fun _ => 0)), .inl (1, 20, .inr (.inl (fun _ => 0))), .inl (0, 20, .inl (fun _ => 0)), .inr (3, [.ref 1, .ref 13, .ref 34, .ref 55, .int 2]), .inl (3, 20, .inr (.inr (.inr (.inr (fun i => if i < 20 then some (14 + i) else none))))), .inl (0, 20, .inl (fun _ => 0)), .inl (0, 20, .inl (fun _ => 0)), .inl (0, 20, .inl (fun _ => 0)), .inl (0, 20, .inl (fun _ => 0)), .inl (0, 20, .inl (fun _ => 0)), .inl (0, 20, .inl (fun _ => 0)), .inl (0, 20, .inl (fun _ => 0)), .inl (0, 20, .inl (fun _ => 0)), .inl (0, 20, .inl (fun _ => 0)), .inl (0, 20, .inl (fun _ => 0)), .inl (0, 20, .inl (fun _ => 0)), .inl (0, 20, .inl (fun _ => 0)), .inl (0, 20, .inl (fun _ => 0)), .inl (0, 20, .inl (fun _ => 0)), .inl (0, 20, .inl (fun _ => 0)), .inl (0, 20, .inl (fun _ => 0)), .inl (0, 20, .inl (fun _ => 0)), .inl (0, 20, .inl (fun _ => 0)), .inl (0, 20, .inl (fun _ => 0)), .inl (0, 20, .inl (fun _ => 0)), .inl (3, 20, .inr (.inr (.inr (.inr (fun i => if i < 20 then some (35 + i) else none))))), .inl (0, 20, .inl (fun _ => 0)), .inl (0, 20, .inl (fun _ => 0)), .inl (0, 20, .inl (fun _ => 0)), .inl (0, 20, .inl (fun _ => 0)), .inl (0, 20, .inl (fun _ => 0)), .inl (0, 20, .inl (fun _ => 0)), .inl (0, 20, .inl (fun _ => 0)), .inl (0, 20, .inl (fun _ => 0)), .inl (0, 20, .inl (fun _ => 0)), .inl (0, 20, .inl (fun _ => 0)), .inl (0, 20, .inl (fun _ => 0)), .inl (0, 20, .inl (fun _ => 0)), .inl (0, 20, .inl (fun _ => 0)), .inl (0, 20, .inl (fun _ => 0)), .inl (0, 20, .inl (fun _ => 0)), .inl (0, 20, .inl (fun _ => 0)), .inl (0, 20, .inl (fun _ => 0)), .inl (0, 20, .inl (fun _ => 0)), .inl (0, 20, .inl (fun _ => 0)), .inl (0, 20, .inl (fun _ => 0)), .inl (0, 9, .inl (fun _ => 0)), .inr (5, [.ref 1, .ref 57, .int 0, .int 0, .int 0]), .inl (2, 100, .inl (fun _ => 0)), .inr (1, [.ref 1, .ref 12, .ref 59, .ref 60, .ref 61, .ref 62, .ref 63, .ref 84, .ref 85, .int 0, .ref 86, .ref 89, .ref 92]), .inl (0, 8, .inl (fun _ => 0)), .inl (0, 8, .inl (fil 20000 8)), .inl (0, 5, .inl (fun _ => 0)), .inl (0, 5, .inl (fil 20000 5)), .inl (3, 20, .inr (.inr (.inr (.inr (fun i => if i < 20 then some (64 + i) else none))))), .inl (0, 8, .inl (fil 2 8)), .inl (0, 8, .inl (fil 2 8)), .inl (0, 8, .inl (fil 2 8)), .inl (0, 8, .inl (fil 2 8)), .inl (0, 8, .inl (fil 2 8)), .inl (0, 8, .inl (fil 2 8)), .inl (0, 8, .inl (fil 2 8)), .inl (0, 8, .inl (fil 2 8)), .inl (0, 8, .inl (fil 2 8)), .inl (0, 8, .inl (fil 2 8)), .inl (0, 8, .inl (fil 2 8)), .inl (0, 8, .inl (fil 2 8)), .inl (0, 8, .inl (fil 2 8)), .inl (0, 8, .inl (fil 2 8)), .inl (0, 8, .inl (fil 2 8)), .inl (0, 8, .inl (fil 2 8)), .inl (0, 8, .inl (fil 2 8)), .inl (0, 8, .inl (fil 2 8)), .inl (0, 8, .inl (fil 2 8)), .inl (0, 8, .inl (fil 2 8)), .inl (0, 12, .inl (fun _ => 0)), .inl (0, 12, .inl (fun _ => 0)), .inr (7, [.ref 87, .ref 88, .int 0]), .inl (0, 20, .inl (fun _ => 0)), .inl (0, 20, .inl (fun _ => 0)), .inr (7, [.ref 90, .ref 91, .int 0]), .inl (0, 20, .inl (fun _ => 0)), .inl (0, 20, .inl (fun _ => 0)), .inl (0, 20, .inl (fun _ => 0)), .inr (2, [.ref 94, .long 0, .ref 95, .ref 116]), .inl (0, 8, .inl (fil 64 8)), .inl (3, 20, .inr (.inr (.inr (.inr (fun i => if i < 20 then some (96 + i) else none))))), .inl (0, 5, .inl (fun _ => 0)), .inl (0, 5, .inl (fun _ => 0)), .inl (0, 5, .inl (fun _ => 0)), .inl (0, 5, .inl (fun _ => 0)), .inl (0, 5, .inl (fun _ => 0)), .inl (0, 5, .inl (fun _ => 0)), .inl (0, 5, .inl (fun _ => 0)), .inl (0, 5, .inl (fun _ => 0)), .inl (0, 5, .inl (fun _ => 0)), .inl (0, 5, .inl (fun _ => 0)), .inl (0, 5, .inl (fun _ => 0)), .inl (0, 5, .inl (fun _ => 0)), .inl (0, 5, .inl (fun _ => 0)), .inl (0, 5, .inl (fun _ => 0)), .inl (0, 5, .inl (fun _ => 0)), .inl (0, 5, .inl (fun _ => 0)), .inl (0, 5, .inl (fun _ => 0)), .inl (0, 5, .inl (fun _ => 0)), .inl (0, 5, .inl (fun _ => 0)), .inl (0, 5, .inl (fun _ => 0)), .inl (0, 20, .inl (fun _ => 0)), .inr (6, [.null, .int 0, .int 0, .int 0, .int 0])]
def KQ_X6_init_117 : VW := [.inr (8, [.ref 1, .ref 12, .ref 56, .ref 58, .ref 93, .null, .null, .null, .null, .int 0]), .inr (0, [.ref 2, .ref 3, .ref 4, .ref 5, .ref 6, .ref 7, .ref 8, .ref 9, .ref 10, .ref 11, .int 0, .int 0, .int 999]), .inl (0, 20, .inl (fun _ => 0)), .inl (0, 20, .inl (fun _ => 0)), .inl (0, 20, .inl (fun _ => 0)), .inl (0, 20, .inl (fun _ => 0)), .inl (1, 20, .inr (.inl (fun _ => 0))), .inl (0, 20, .inl (fun _ => 0)), .inl (0, 20, .inl (fun _ => 0)), .inl (0, 20, .inl (fun _ => 0)), .inl (1, 20, .inr (.inl (fun _ => 0))), .inl (0, 20, .inl (fun _ => 0)), .inr (3, [.ref 1, .ref 13, .ref 34, .ref 55, .int 2]), .inl (3, 20, .inr (.inr (.inr (.inr (fun i => if i < 20 then some (14 + i) else none))))), .inl (0, 20, .inl (fun _ => 0)), .inl (0, 20, .inl (fun _ => 0)), .inl (0, 20, .inl (fun _ => 0)), .inl (0, 20, .inl (fun _ => 0)), .inl (0, 20, .inl (fun _ => 0)), .inl (0, 20, .inl (fun _ => 0)), .inl (0, 20, .inl (fun _ => 0)), .inl (0, 20, .inl (fun _ => 0)), .inl (0, 20, .inl (fun _ => 0)), .inl (0, 20, .inl (fun _ => 0)), .inl (0, 20, .inl (fun _ => 0)), .inl (0, 20, .inl (fun _ => 0)), .inl (0, 20, .inl (fun _ => 0)), .inl (0, 20, .inl (fun _ => 0)), .inl (0, 20, .inl (fun _ => 0)), .inl (0, 20, .inl (fun _ => 0)), .inl (0, 20, .inl (fun _ => 0)), .inl (0, 20, .inl (fun _ => 0)), .inl (0, 20, .inl (fun _ => 0)), .inl (0, 20, .inl (fun _ => 0)), .inl (3, 20, .inr (.inr (.inr (.inr (fun i => if i < 20 then some (35 + i) else none))))), .inl (0, 20, .inl (fun _ => 0)), .inl (0, 20, .inl (fun _ => 0)), .inl (0, 20, .inl (fun _ => 0)), .inl (0, 20, .inl (fun _ => 0)), .inl (0, 20, .inl (fun _ => 0)), .inl (0, 20, .inl (fun _ => 0)), .inl (0, 20, .inl (fun _ => 0)), .inl (0, 20, .inl (fun _ => 0)), .inl (0, 20, .inl (fun _ => 0)), .inl (0, 20, .inl (fun _ => 0)), .inl (0, 20, .inl (fun _ => 0)), .inl (0, 20, .inl (fun _ => 0)), .inl (0, 20, .inl (fun _ => 0)), .inl (0, 20, .inl (fun _ => 0)), .inl (0, 20, .inl (fun _ => 0)), .inl (0, 20, .inl (fun _ => 0)), .inl (0, 20, .inl (fun _ => 0)), .inl (0, 20, .inl (fun _ => 0)), .inl (0, 20, .inl (fun _ => 0)), .inl (0, 20, .inl (fun _ => 0)), .inl (0, 9, .inl (fun _ => 0)), .inr (5, [.ref 1, .ref 57, .int 0, .int 0, .int 0]), .inl (2, 100, .inl (fun _ => 0)), .inr (1, [.ref 1, .ref 12, .ref 59, .ref 60, .ref 61, .ref 62, .ref 63, .ref 84, .ref 85, .int 0, .ref 86, .ref 89, .ref 92]), .inl (0, 8, .inl (fun _ => 0)), .inl (0, 8, .inl (fil 20000 8)), .inl (0, 5, .inl (fun _ => 0)), .inl (0, 5, .inl (fil 20000 5)), .inl (3, 20, .inr (.inr (.inr (.inr (fun i => if i < 20 then some (64 + i) else none))))), .inl (0, 8, .inl (fil 2 8)), .inl (0, 8, .inl (fil 2 8)), .inl (0, 8, .inl (fil 2 8)), .inl (0, 8, .inl (fil 2 8)), .inl (0, 8, .inl (fil 2 8)), .inl (0, 8, .inl (fil 2 8)), .inl (0, 8, .inl (fil 2 8)), .inl (0, 8, .inl (fil 2 8)), .inl (0, 8, .inl (fil 2 8)), .inl (0, 8, .inl (fil 2 8)), .inl (0, 8, .inl (fil 2 8)), .inl (0, 8, .inl (fil 2 8)), .inl (0, 8, .inl (fil 2 8)), .inl (0, 8, .inl (fil 2 8)), .inl (0, 8, .inl (fil 2 8)), .inl (0, 8, .inl (fil 2 8)), .inl (0, 8, .inl (fil 2 8)), .inl (0, 8, .inl (fil 2 8)), .inl (0, 8, .inl (fil 2 8)), .inl (0, 8, .inl (fil 2 8)), .inl (0, 12, .inl (fun _ => 0)), .inl (0, 12, .inl (fun _ => 0)), .inr (7, [.ref 87, .ref 88, .int 0]), .inl (0, 20, .inl (fun _ => 0)), .inl (0, 20, .inl (fun _ => 0)), .inr (7, [.ref 90, .ref 91, .int 0]), .inl (0, 20, .inl (fun _ => 0)), .inl (0, 20, .inl (fun _ => 0)), .inl (0, 20, .inl (fun _ => 0)), .inr (2, [.ref 94, .long 0, .ref 95, .ref 116]), .inl (0, 8, .inl (fil 64 8)), .inl (3, 20, .inr (.inr (.inr (.inr (fun i => if i < 20 then some (96 + i) else none))))), .inl (0, 5, .inl (fun _ => 0)), .inl (0, 5, .inl (fun _ => 0)), .inl (0, 5, .inl (fun _ => 0)), .inl (0, 5, .inl (fun _ => 0)), .inl (0, 5, .inl (fun _ => 0)), .inl (0, 5, .inl (fun _ => 0)), .inl (0, 5, .inl (fun _ => 0)), .inl (0, 5, .inl (fun _ => 0)), .inl (0, 5, .inl (fun _ => 0)), .inl (0, 5, .inl (fun _ => 0)), .inl (0, 5, .inl (fun _ => 0)), .inl (0, 5, .inl (fun _ => 0)), .inl (0, 5, .inl (fun _ => 0)), .inl (0, 5, .inl (fun _ => 0)), .inl (0, 5, .inl (fun _ => 0)), .inl (0, 5, .inl (fun _ => 0)), .inl (0, 5, .inl (fun _ => 0)), .inl (0, 5, .inl (fun _ => 0)), .inl (0, 5, .inl (fun _ => 0)), .inl (0, 5, .inl (fun _ => 0)), .inl (0, 20, .inl (fun _ => 0)), .inr (6, [.ref 118, .int 0, .int 0, .int 0, .int 0]), .inl (0, 160, .inl (fun _ => 0))]
set_option maxRecDepth 100000 in
set_option maxHeartbeats 40000000 in
theorem sp_X6_init_117 {G : vG} {l : Launch} : Sp G l yX6_init cX6_init 1 none 1 1 160 [.ref 117] KP_X6_init_117 (QV (fun w2 => w2 = KQ_X6_init_117)) := by
  refine Sp_of_R [(some (.ref 117))] [] rfl (by simp) rfl (Nat.le_of_ble_eq_true rfl) ?_
  refine R_aload_n (pc := 0) dX6_init_0 rfl rfl ?_
  refine R_objInit (pc := 1) wo_X6 dX6_init_1 (by decide) (by decide) ?_
  refine R_aload_n (pc := 4) dX6_init_4 rfl rfl ?_
  refine R_sipush (pc := 5) (v := 160) dX6_init_5 (by decide) ?_
  refine C_newI (pc := 8) 118 rfl (by decide) rfl (by decide) (by decide) (by decide) (by decide) dX6_init_8 ?_
  refine p_X6_9 (pc := 10) rfl rfl dX6_init_10 rfl (by decide) rfl rfl rfl ?_
  exact R_vret (pc := 13) dX6_init_13 rfl (by decide) (by decide) ⟨rfl, rfl⟩
def KP_X3_init_12 : VW := [.inr (8, [.ref 1, .null, .null, .null, .null, .null, .null, .null, .null, .int 0]), .inr (0, [.ref 2, .ref 3, .ref 4, .ref 5, .ref 6, .ref 7, .ref 8, .ref 9, .ref 10, .ref 11, .int 0, .int 0, .int 999]), .inl (0, 20, .inl (fun _ => 0)), .inl (0, 20, .inl (fun _ => 0)), .inl (0, 20, .inl (fun _ => 0)), .inl (0, 20, .inl (fun _ => 0)), .inl (1, 20, .inr (.inl (fun _ => 0))), .inl (0, 20, .inl (fun _ => 0)), .inl (0, 20, .inl (fun _ => 0)), .inl (0, 20, .inl (fun _ => 0)), .inl (1, 20, .inr (.inl (fun _ => 0))), .inl (0, 20, .inl (fun _ => 0)), .inr (3, [.null, .null, .null, .null, .int 0])]
def KQ_X3_init_12 : VW := [.inr (8, [.ref 1, .null, .null, .null, .null, .null, .null, .null, .null, .int 0]), .inr (0, [.ref 2, .ref 3, .ref 4, .ref 5, .ref 6, .ref 7, .ref 8, .ref 9, .ref 10, .ref 11, .int 0, .int 0, .int 999]), .inl (0, 20, .inl (fun _ => 0)), .inl (0, 20, .inl (fun _ => 0)), .inl (0, 20, .inl (fun _ => 0)), .inl (0, 20, .inl (fun _ => 0)), .inl (1, 20, .inr (.inl (fun _ => 0))), .inl (0, 20, .inl (fun _ => 0)), .inl (0, 20, .inl (fun _ => 0)), .inl (0, 20, .inl (fun _ => 0)), .inl (1, 20, .inr (.inl (fun _ => 0))), .inl (0, 20, .inl (fun _ => 0)), .inr (3, [.ref 1, .ref 13, .ref 34, .ref 55, .int 2]), .inl (3, 20, .inr (.inr (.inr (.inr (fun i => if i < 20 then some (14 + i) else none))))), .inl (0, 20, .inl (fun _ => 0)), .inl (0, 20, .inl (fun _ => 0)), .inl (0, 20, .inl (fun _ => 0)), .inl (0, 20, .inl (fun _ => 0)), .inl (0, 20, .inl (fun _ => 0)), .inl (0, 20, .inl (fun _ => 0)), .inl (0, 20, .inl (fun _ => 0)), .inl (0, 20, .inl (fun _ => 0)), .inl (0, 20, .inl (fun _ => 0)), .inl (0, 20, .inl (fun _ => 0)), .inl (0, 20, .inl (fun _ => 0)), .inl (0, 20, .inl (fun _ => 0)), .inl (0, 20, .inl (fun _ => 0)), .inl (0, 20, .inl (fun _ => 0)), .inl (0, 20, .inl (fun _ => 0)), .inl (0, 20, .inl (fun _ => 0)), .inl (0, 20, .inl (fun _ => 0)), .inl (0, 20, .inl (fun _ => 0)), .inl (0, 20, .inl (fun _ => 0)), .inl (0, 20, .inl (fun _ => 0)), .inl (3, 20, .inr (.inr (.inr (.inr (fun i => if i < 20 then some (35 + i) else none))))), .inl (0, 20, .inl (fun _ => 0)), .inl (0, 20, .inl (fun _ => 0)), .inl (0, 20, .inl (fun _ => 0)), .inl (0, 20, .inl (fun _ => 0)), .inl (0, 20, .inl (fun _ => 0)), .inl (0, 20, .inl (fun _ => 0)), .inl (0, 20, .inl (fun _ => 0)), .inl (0, 20, .inl (fun _ => 0)), .inl (0, 20, .inl (fun _ => 0)), .inl (0, 20, .inl (fun _ => 0)), .inl (0, 20, .inl (fun _ => 0)), .inl (0, 20, .inl (fun _ => 0)), .inl (0, 20, .inl (fun _ => 0)), .inl (0, 20, .inl (fun _ => 0)), .inl (0, 20, .inl (fun _ => 0)), .inl (0, 20, .inl (fun _ => 0)), .inl (0, 20, .inl (fun _ => 0)), .inl (0, 20, .inl (fun _ => 0)), .inl (0, 20, .inl (fun _ => 0)), .inl (0, 20, .inl (fun _ => 0)), .inl (0, 9, .inl (fun _ => 0))]
set_option maxRecDepth 100000 in
set_option maxHeartbeats 40000000 in
theorem sp_X3_init_12 {G : vG} {l : Launch} : Sp G l yX3_init cX3_init 2 none 1 43 849 [.ref 12, .ref 1] KP_X3_init_12 (QV (fun w2 => w2 = KQ_X3_init_12)) := by
  refine Sp_of_R [(some (.ref 12)), (some (.ref 1))] [] rfl (by simp) rfl (Nat.le_of_ble_eq_true rfl) ?_
  refine R_aload_n (pc := 0) dX3_init_0 rfl rfl ?_
  refine R_objInit (pc := 1) wo_X3 dX3_init_1 (by decide) (by decide) ?_
  refine R_aload_n (pc := 4) dX3_init_4 rfl rfl ?_
  refine R_bipush (pc := 5) (v := 20) dX3_init_5 (by decide) ?_
  refine R_bipush (pc := 7) (v := 20) dX3_init_7 (by decide) ?_
  refine C_mna (pc := 9) 13 rfl _ wcl_104 rfl rfl (by decide) (by decide) (by decide) (by decide) (by decide) (by decide) (by decide) dX3_init_9 rfl ?_
  refine p_X3_11 (pc := 13) rfl rfl dX3_init_13 rfl (by decide) rfl rfl rfl ?_
  refine R_aload_n (pc := 16) dX3_init_16 rfl rfl ?_
  refine R_bipush (pc := 17) (v := 20) dX3_init_17 (by decide) ?_
  refine R_bipush (pc := 19) (v := 20) dX3_init_19 (by decide) ?_
  refine C_mna (pc := 21) 34 rfl _ wcl_104 rfl rfl (by decide) (by decide) (by decide) (by decide) (by decide) (by decide) (by decide) dX3_init_21 rfl ?_
  refine p_X3_16 (pc := 25) rfl rfl dX3_init_25 rfl (by decide) rfl rfl rfl ?_
  refine R_aload_n (pc := 28) dX3_init_28 rfl rfl ?_
  refine R_bipush (pc := 29) (v := 9) dX3_init_29 (by decide) ?_
  refine C_newI (pc := 31) 55 rfl (by decide) rfl (by decide) (by decide) (by decide) (by decide) dX3_init_31 ?_
  refine p_X3_19 (pc := 33) rfl rfl dX3_init_33 rfl (by decide) rfl rfl rfl ?_
  refine R_aload_n (pc := 36) dX3_init_36 rfl rfl ?_
  refine R_iconst (pc := 37) (v := 2) dX3_init_37 (by decide) ?_
  refine p_X3_23 (pc := 38) rfl dX3_init_38 rfl (by decide) rfl rfl rfl ?_
  refine R_aload_n (pc := 41) dX3_init_41 rfl rfl ?_
  refine R_aload_n (pc := 42) dX3_init_42 rfl rfl ?_
  refine p_X3_27 (pc := 43) rfl rfl dX3_init_43 rfl (by decide) rfl rfl rfl ?_
  exact R_vret (pc := 46) dX3_init_46 rfl (by decide) (by decide) ⟨rfl, rfl⟩
def KP_X2_init_93 : VW := [.inr (8, [.ref 1, .ref 12, .ref 56, .ref 58, .null, .null, .null, .null, .null, .int 0]), .inr (0, [.ref 2, .ref 3, .ref 4, .ref 5, .ref 6, .ref 7, .ref 8, .ref 9, .ref 10, .ref 11, .int 0, .int 0, .int 999]), .inl (0, 20, .inl (fun _ => 0)), .inl (0, 20, .inl (fun _ => 0)), .inl (0, 20, .inl (fun _ => 0)), .inl (0, 20, .inl (fun _ => 0)), .inl (1, 20, .inr (.inl (fun _ => 0))), .inl (0, 20, .inl (fun _ => 0)), .inl (0, 20, .inl (fun _ => 0)), .inl (0, 20, .inl (fun _ => 0)), .inl (1, 20, .inr (.inl (fun _ => 0))), .inl (0, 20, .inl (fun _ => 0)), .inr (3, [.ref 1, .ref 13, .ref 34, .ref 55, .int 2]), .inl (3, 20, .inr (.inr (.inr (.inr (fun i => if i < 20 then some (14 + i) else none))))), .inl (0, 20, .inl (fun _ => 0)), .inl (0, 20, .inl (fun _ => 0)), .inl (0, 20, .inl (fun _ => 0)), .inl (0, 20, .inl (fun _ => 0)), .inl (0, 20, .inl (fun _ => 0)), .inl (0, 20, .inl (fun _ => 0)), .inl (0, 20, .inl (fun _ => 0)), .inl (0, 20, .inl (fun _ => 0)), .inl (0, 20, .inl (fun _ => 0)), .inl (0, 20, .inl (fun _ => 0)), .inl (0, 20, .inl (fun _ => 0)), .inl (0, 20, .inl (fun _ => 0)), .inl (0, 20, .inl (fun _ => 0)), .inl (0, 20, .inl (fun _ => 0)), .inl (0, 20, .inl (fun _ => 0)), .inl (0, 20, .inl (fun _ => 0)), .inl (0, 20, .inl (fun _ => 0)), .inl (0, 20, .inl (fun _ => 0)), .inl (0, 20, .inl (fun _ => 0)), .inl (0, 20, .inl (fun _ => 0)), .inl (3, 20, .inr (.inr (.inr (.inr (fun i => if i < 20 then some (35 + i) else none))))), .inl (0, 20, .inl (fun _ => 0)), .inl (0, 20, .inl (fun _ => 0)), .inl (0, 20, .inl (fun _ => 0)), .inl (0, 20, .inl (fun _ => 0)), .inl (0, 20, .inl (fun _ => 0)), .inl (0, 20, .inl (fun _ => 0)), .inl (0, 20, .inl (fun _ => 0)), .inl (0, 20, .inl (fun _ => 0)), .inl (0, 20, .inl (fun _ => 0)), .inl (0, 20, .inl (fun _ => 0)), .inl (0, 20, .inl (fun _ => 0)), .inl (0, 20, .inl (fun _ => 0)), .inl (0, 20, .inl (fun _ => 0)), .inl (0, 20, .inl (fun _ => 0)), .inl (0, 20, .inl (fun _ => 0)), .inl (0, 20, .inl (fun _ => 0)), .inl (0, 20, .inl (fun _ => 0)), .inl (0, 20, .inl (fun _ => 0)), .inl (0, 20, .inl (fun _ => 0)), .inl (0, 20, .inl (fun _ => 0)), .inl (0, 9, .inl (fun _ => 0)), .inr (5, [.ref 1, .ref 57, .int 0, .int 0, .int 0]), .inl (2, 100, .inl (fun _ => 0)), .inr (1, [.ref 1, .ref 12, .ref 59, .ref 60, .ref 61, .ref 62, .ref 63, .ref 84, .ref 85, .int 0, .ref 86, .ref 89, .ref 92]), .inl (0, 8, .inl (fun _ => 0)), .inl (0, 8, .inl (fil 20000 8)), .inl (0, 5, .inl (fun _ => 0)), .inl (0, 5, .inl (fil 20000 5)), .inl (3, 20, .inr (.inr (.inr (.inr (fun i => if i < 20 then some (64 + i) else none))))), .inl (0, 8, .inl (fil 2 8)), .inl (0, 8, .inl (fil 2 8)), .inl (0, 8, .inl (fil 2 8)), .inl (0, 8, .inl (fil 2 8)), .inl (0, 8, .inl (fil 2 8)), .inl (0, 8, .inl (fil 2 8)), .inl (0, 8, .inl (fil 2 8)), .inl (0, 8, .inl (fil 2 8)), .inl (0, 8, .inl (fil 2 8)), .inl (0, 8, .inl (fil 2 8)), .inl (0, 8, .inl (fil 2 8)), .inl (0, 8, .inl (fil 2 8)), .inl (0, 8, .inl (fil 2 8)), .inl (0, 8, .inl (fil 2 8)), .inl (0, 8, .inl (fil 2 8)), .inl (0, 8, .inl (fil 2 8)), .inl (0, 8, .inl (fil 2 8)), .inl (0, 8, .inl (fil 2 8)), .inl (0, 8, .inl (fil 2 8)), .inl (0, 8, .inl (fil 2 8)), .inl (0, 12, .inl (fun _ => 0)), .inl (0, 12, .inl (fun _ => 0)), .inr (7, [.ref 87, .ref 88, .int 0]), .inl (0, 20, .inl (fun _ => 0)), .inl (0, 20, .inl (fun _ => 0)), .inr (7, [.ref 90, .ref 91, .int 0]), .inl (0, 20, .inl (fun _ => 0)), .inl (0, 20, .inl (fun _ => 0)), .inl (0, 20, .inl (fun _ => 0)), .inr (2, [.null, .long 0, .null, .null])]
def KQ_X2_init_93 : VW := [.inr (8, [.ref 1, .ref 12, .ref 56, .ref 58, .null, .null, .null, .null, .null, .int 0]), .inr (0, [.ref 2, .ref 3, .ref 4, .ref 5, .ref 6, .ref 7, .ref 8, .ref 9, .ref 10, .ref 11, .int 0, .int 0, .int 999]), .inl (0, 20, .inl (fun _ => 0)), .inl (0, 20, .inl (fun _ => 0)), .inl (0, 20, .inl (fun _ => 0)), .inl (0, 20, .inl (fun _ => 0)), .inl (1, 20, .inr (.inl (fun _ => 0))), .inl (0, 20, .inl (fun _ => 0)), .inl (0, 20, .inl (fun _ => 0)), .inl (0, 20, .inl (fun _ => 0)), .inl (1, 20, .inr (.inl (fun _ => 0))), .inl (0, 20, .inl (fun _ => 0)), .inr (3, [.ref 1, .ref 13, .ref 34, .ref 55, .int 2]), .inl (3, 20, .inr (.inr (.inr (.inr (fun i => if i < 20 then some (14 + i) else none))))), .inl (0, 20, .inl (fun _ => 0)), .inl (0, 20, .inl (fun _ => 0)), .inl (0, 20, .inl (fun _ => 0)), .inl (0, 20, .inl (fun _ => 0)), .inl (0, 20, .inl (fun _ => 0)), .inl (0, 20, .inl (fun _ => 0)), .inl (0, 20, .inl (fun _ => 0)), .inl (0, 20, .inl (fun _ => 0)), .inl (0, 20, .inl (fun _ => 0)), .inl (0, 20, .inl (fun _ => 0)), .inl (0, 20, .inl (fun _ => 0)), .inl (0, 20, .inl (fun _ => 0)), .inl (0, 20, .inl (fun _ => 0)), .inl (0, 20, .inl (fun _ => 0)), .inl (0, 20, .inl (fun _ => 0)), .inl (0, 20, .inl (fun _ => 0)), .inl (0, 20, .inl (fun _ => 0)), .inl (0, 20, .inl (fun _ => 0)), .inl (0, 20, .inl (fun _ => 0)), .inl (0, 20, .inl (fun _ => 0)), .inl (3, 20, .inr (.inr (.inr (.inr (fun i => if i < 20 then some (35 + i) else none))))), .inl (0, 20, .inl (fun _ => 0)), .inl (0, 20, .inl (fun _ => 0)), .inl (0, 20, .inl (fun _ => 0)), .inl (0, 20, .inl (fun _ => 0)), .inl (0, 20, .inl (fun _ => 0)), .inl (0, 20, .inl (fun _ => 0)), .inl (0, 20, .inl (fun _ => 0)), .inl (0, 20, .inl (fun _ => 0)), .inl (0, 20, .inl (fun _ => 0)), .inl (0, 20, .inl (fun _ => 0)), .inl (0, 20, .inl (fun _ => 0)), .inl (0, 20, .inl (fun _ => 0)), .inl (0, 20, .inl (fun _ => 0)), .inl (0, 20, .inl (fun _ => 0)), .inl (0, 20, .inl (fun _ => 0)), .inl (0, 20, .inl (fun _ => 0)), .inl (0, 20, .inl (fun _ => 0)), .inl (0, 20, .inl (fun _ => 0)), .inl (0, 20, .inl (fun _ => 0)), .inl (0, 20, .inl (fun _ => 0)), .inl (0, 9, .inl (fun _ => 0)), .inr (5, [.ref 1, .ref 57, .int 0, .int 0, .int 0]), .inl (2, 100, .inl (fun _ => 0)), .inr (1, [.ref 1, .ref 12, .ref 59, .ref 60, .ref 61, .ref 62, .ref 63, .ref 84, .ref 85, .int 0, .ref 86, .ref 89, .ref 92]), .inl (0, 8, .inl (fun _ => 0)), .inl (0, 8, .inl (fil 20000 8)), .inl (0, 5, .inl (fun _ => 0)), .inl (0, 5, .inl (fil 20000 5)), .inl (3, 20, .inr (.inr (.inr (.inr (fun i => if i < 20 then some (64 + i) else none))))), .inl (0, 8, .inl (fil 2 8)), .inl (0, 8, .inl (fil 2 8)), .inl (0, 8, .inl (fil 2 8)), .inl (0, 8, .inl (fil 2 8)), .inl (0, 8, .inl (fil 2 8)), .inl (0, 8, .inl (fil 2 8)), .inl (0, 8, .inl (fil 2 8)), .inl (0, 8, .inl (fil 2 8)), .inl (0, 8, .inl (fil 2 8)), .inl (0, 8, .inl (fil 2 8)), .inl (0, 8, .inl (fil 2 8)), .inl (0, 8, .inl (fil 2 8)), .inl (0, 8, .inl (fil 2 8)), .inl (0, 8, .inl (fil 2 8)), .inl (0, 8, .inl (fil 2 8)), .inl (0, 8, .inl (fil 2 8)), .inl (0, 8, .inl (fil 2 8)), .inl (0, 8, .inl (fil 2 8)), .inl (0, 8, .inl (fil 2 8)), .inl (0, 8, .inl (fil 2 8)), .inl (0, 12, .inl (fun _ => 0)), .inl (0, 12, .inl (fun _ => 0)), .inr (7, [.ref 87, .ref 88, .int 0]), .inl (0, 20, .inl (fun _ => 0)), .inl (0, 20, .inl (fun _ => 0)), .inr (7, [.ref 90, .ref 91, .int 0]), .inl (0, 20, .inl (fun _ => 0)), .inl (0, 20, .inl (fun _ => 0)), .inl (0, 20, .inl (fun _ => 0)), .inr (2, [.ref 94, .long 0, .ref 95, .ref 116]), .inl (0, 8, .inl (fil 64 8)), .inl (3, 20, .inr (.inr (.inr (.inr (fun i => if i < 20 then some (96 + i) else none))))), .inl (0, 5, .inl (fun _ => 0)), .inl (0, 5, .inl (fun _ => 0)), .inl (0, 5, .inl (fun _ => 0)), .inl (0, 5, .inl (fun _ => 0)), .inl (0, 5, .inl (fun _ => 0)), .inl (0, 5, .inl (fun _ => 0)), .inl (0, 5, .inl (fun _ => 0)), .inl (0, 5, .inl (fun _ => 0)), .inl (0, 5, .inl (fun _ => 0)), .inl (0, 5, .inl (fun _ => 0)), .inl (0, 5, .inl (fun _ => 0)), .inl (0, 5, .inl (fun _ => 0)), .inl (0, 5, .inl (fun _ => 0)), .inl (0, 5, .inl (fun _ => 0)), .inl (0, 5, .inl (fun _ => 0)), .inl (0, 5, .inl (fun _ => 0)), .inl (0, 5, .inl (fun _ => 0)), .inl (0, 5, .inl (fun _ => 0)), .inl (0, 5, .inl (fun _ => 0)), .inl (0, 5, .inl (fun _ => 0)), .inl (0, 20, .inl (fun _ => 0))]
def KF4 (f : Nat → Int32) : VW := [.inr (8, [.ref 1, .ref 12, .ref 56, .ref 58, .null, .null, .null, .null, .null, .int 0]), .inr (0, [.ref 2, .ref 3, .ref 4, .ref 5, .ref 6, .ref 7, .ref 8, .ref 9, .ref 10, .ref 11, .int 0, .int 0, .int 999]), .inl (0, 20, .inl (fun _ => 0)), .inl (0, 20, .inl (fun _ => 0)), .inl (0, 20, .inl (fun _ => 0)), .inl (0, 20, .inl (fun _ => 0)), .inl (1, 20, .inr (.inl (fun _ => 0))), .inl (0, 20, .inl (fun _ => 0)), .inl (0, 20, .inl (fun _ => 0)), .inl (0, 20, .inl (fun _ => 0)), .inl (1, 20, .inr (.inl (fun _ => 0))), .inl (0, 20, .inl (fun _ => 0)), .inr (3, [.ref 1, .ref 13, .ref 34, .ref 55, .int 2]), .inl (3, 20, .inr (.inr (.inr (.inr (fun i => if i < 20 then some (14 + i) else none))))), .inl (0, 20, .inl (fun _ => 0)), .inl (0, 20, .inl (fun _ => 0)), .inl (0, 20, .inl (fun _ => 0)), .inl (0, 20, .inl (fun _ => 0)), .inl (0, 20, .inl (fun _ => 0)), .inl (0, 20, .inl (fun _ => 0)), .inl (0, 20, .inl (fun _ => 0)), .inl (0, 20, .inl (fun _ => 0)), .inl (0, 20, .inl (fun _ => 0)), .inl (0, 20, .inl (fun _ => 0)), .inl (0, 20, .inl (fun _ => 0)), .inl (0, 20, .inl (fun _ => 0)), .inl (0, 20, .inl (fun _ => 0)), .inl (0, 20, .inl (fun _ => 0)), .inl (0, 20, .inl (fun _ => 0)), .inl (0, 20, .inl (fun _ => 0)), .inl (0, 20, .inl (fun _ => 0)), .inl (0, 20, .inl (fun _ => 0)), .inl (0, 20, .inl (fun _ => 0)), .inl (0, 20, .inl (fun _ => 0)), .inl (3, 20, .inr (.inr (.inr (.inr (fun i => if i < 20 then some (35 + i) else none))))), .inl (0, 20, .inl (fun _ => 0)), .inl (0, 20, .inl (fun _ => 0)), .inl (0, 20, .inl (fun _ => 0)), .inl (0, 20, .inl (fun _ => 0)), .inl (0, 20, .inl (fun _ => 0)), .inl (0, 20, .inl (fun _ => 0)), .inl (0, 20, .inl (fun _ => 0)), .inl (0, 20, .inl (fun _ => 0)), .inl (0, 20, .inl (fun _ => 0)), .inl (0, 20, .inl (fun _ => 0)), .inl (0, 20, .inl (fun _ => 0)), .inl (0, 20, .inl (fun _ => 0)), .inl (0, 20, .inl (fun _ => 0)), .inl (0, 20, .inl (fun _ => 0)), .inl (0, 20, .inl (fun _ => 0)), .inl (0, 20, .inl (fun _ => 0)), .inl (0, 20, .inl (fun _ => 0)), .inl (0, 20, .inl (fun _ => 0)), .inl (0, 20, .inl (fun _ => 0)), .inl (0, 20, .inl (fun _ => 0)), .inl (0, 9, .inl (fun _ => 0)), .inr (5, [.ref 1, .ref 57, .int 0, .int 0, .int 0]), .inl (2, 100, .inl (fun _ => 0)), .inr (1, [.ref 1, .ref 12, .ref 59, .ref 60, .ref 61, .ref 62, .ref 63, .ref 84, .ref 85, .int 0, .ref 86, .ref 89, .ref 92]), .inl (0, 8, .inl (fun _ => 0)), .inl (0, 8, .inl (fil 20000 8)), .inl (0, 5, .inl (fun _ => 0)), .inl (0, 5, .inl (fil 20000 5)), .inl (3, 20, .inr (.inr (.inr (.inr (fun i => if i < 20 then some (64 + i) else none))))), .inl (0, 8, .inl (fil 2 8)), .inl (0, 8, .inl (fil 2 8)), .inl (0, 8, .inl (fil 2 8)), .inl (0, 8, .inl (fil 2 8)), .inl (0, 8, .inl (fil 2 8)), .inl (0, 8, .inl (fil 2 8)), .inl (0, 8, .inl (fil 2 8)), .inl (0, 8, .inl (fil 2 8)), .inl (0, 8, .inl (fil 2 8)), .inl (0, 8, .inl (fil 2 8)), .inl (0, 8, .inl (fil 2 8)), .inl (0, 8, .inl (fil 2 8)), .inl (0, 8, .inl (fil 2 8)), .inl (0, 8, .inl (fil 2 8)), .inl (0, 8, .inl (fil 2 8)), .inl (0, 8, .inl (fil 2 8)), .inl (0, 8, .inl (fil 2 8)), .inl (0, 8, .inl (fil 2 8)), .inl (0, 8, .inl (fil 2 8)), .inl (0, 8, .inl (fil 2 8)), .inl (0, 12, .inl (fun _ => 0)), .inl (0, 12, .inl (fun _ => 0)), .inr (7, [.ref 87, .ref 88, .int 0]), .inl (0, 20, .inl (fun _ => 0)), .inl (0, 20, .inl (fun _ => 0)), .inr (7, [.ref 90, .ref 91, .int 0]), .inl (0, 20, .inl (fun _ => 0)), .inl (0, 20, .inl (fun _ => 0)), .inl (0, 20, .inl (fun _ => 0)), .inr (2, [.ref 94, .long 0, .ref 95, .ref 116]), .inl (0, 8, .inl f), .inl (3, 20, .inr (.inr (.inr (.inr (fun i => if i < 20 then some (96 + i) else none))))), .inl (0, 5, .inl (fun _ => 0)), .inl (0, 5, .inl (fun _ => 0)), .inl (0, 5, .inl (fun _ => 0)), .inl (0, 5, .inl (fun _ => 0)), .inl (0, 5, .inl (fun _ => 0)), .inl (0, 5, .inl (fun _ => 0)), .inl (0, 5, .inl (fun _ => 0)), .inl (0, 5, .inl (fun _ => 0)), .inl (0, 5, .inl (fun _ => 0)), .inl (0, 5, .inl (fun _ => 0)), .inl (0, 5, .inl (fun _ => 0)), .inl (0, 5, .inl (fun _ => 0)), .inl (0, 5, .inl (fun _ => 0)), .inl (0, 5, .inl (fun _ => 0)), .inl (0, 5, .inl (fun _ => 0)), .inl (0, 5, .inl (fun _ => 0)), .inl (0, 5, .inl (fun _ => 0)), .inl (0, 5, .inl (fun _ => 0)), .inl (0, 5, .inl (fun _ => 0)), .inl (0, 5, .inl (fun _ => 0)), .inl (0, 20, .inl (fun _ => 0))]
set_option maxRecDepth 100000 in
set_option maxHeartbeats 40000000 in
theorem sp_X2_init_93 {G : vG} {l : Launch} : Sp G l yX2_init cX2_init 2 none 1 23 148 [.ref 93] KP_X2_init_93 (QV (fun w2 => w2 = KQ_X2_init_93)) := by
  refine Sp_of_R [(some (.ref 93)), none] [none] rfl (by simp) rfl (Nat.le_of_ble_eq_true rfl) ?_
  refine R_aload_n (pc := 0) dX2_init_0 rfl rfl ?_
  refine R_objInit (pc := 1) wo_X2 dX2_init_1 (by decide) (by decide) ?_
  refine R_aload_n (pc := 4) dX2_init_4 rfl rfl ?_
  refine R_bipush (pc := 5) (v := 8) dX2_init_5 (by decide) ?_
  refine C_newI (pc := 7) 94 rfl (by decide) rfl (by decide) (by decide) (by decide) (by decide) dX2_init_7 ?_
  refine p_X2_9 (pc := 9) rfl rfl dX2_init_9 rfl (by decide) rfl rfl rfl ?_
  refine R_aload_n (pc := 12) dX2_init_12 rfl rfl ?_
  refine R_bipush (pc := 13) (v := 20) dX2_init_13 (by decide) ?_
  refine R_iconst (pc := 15) (v := 5) dX2_init_15 (by decide) ?_
  refine C_mna (pc := 16) 95 rfl _ wcl_236 rfl rfl (by decide) (by decide) (by decide) (by decide) (by decide) (by decide) (by decide) dX2_init_16 rfl ?_
  refine p_X2_17 (pc := 20) rfl rfl dX2_init_20 rfl (by decide) rfl rfl rfl ?_
  refine R_aload_n (pc := 23) dX2_init_23 rfl rfl ?_
  refine R_bipush (pc := 24) (v := 20) dX2_init_24 (by decide) ?_
  refine C_newI (pc := 26) 116 rfl (by decide) rfl (by decide) (by decide) (by decide) (by decide) dX2_init_26 ?_
  refine p_X2_20 (pc := 28) rfl rfl dX2_init_28 rfl (by decide) rfl rfl rfl ?_
  refine R_iconst (pc := 31) (v := 0) dX2_init_31 (by decide) ?_
  refine st_2_1_i_a (pc := 32) dX2_init_32 ?_
  have HL33 : ∀ (q j : Nat), j + q = 8 → R G l yX2_init cX2_init 2 none 1 23 148 (QV (fun w2 => w2 = KQ_X2_init_93)) 33 [(some (.ref 93)), (some (.int (nI j)))] [] (KF4 (fil 64 j)) 23 148 := by
    intro q
    induction q with
    | zero =>
      intro j hj
      obtain rfl : j = 8 := by omega
      refine R_iload_n (pc := 33) dX2_init_33 rfl rfl ?_
      refine R_bipush (pc := 34) (v := 8) dX2_init_34 (by decide) ?_
      refine R_icge (pc := 36) 53 dX2_init_36 (by decide) (fun _ => ?_) (fun h => absurd (by decide) h)
      exact R_vret (pc := 53) dX2_init_53 rfl (by decide) (by decide) ⟨rfl, rfl⟩
    | succ q ih =>
      intro j hj
      have hlt : j < 8 := by omega
      refine R_iload_n (pc := 33) dX2_init_33 rfl rfl ?_
      refine R_bipush (pc := 34) (v := 8) dX2_init_34 (by decide) ?_
      refine R_icge (pc := 36) 53 dX2_init_36 (by decide) (fun h => absurd h (nI_ge hlt (by decide))) (fun _ => ?_)
      refine R_aload_n (pc := 39) dX2_init_39 rfl rfl ?_
      refine g_X2_9 (pc := 40) rfl dX2_init_40 (rfl) rfl ?_
      refine R_iload_n (pc := 43) dX2_init_43 rfl rfl ?_
      refine R_bipush (pc := 44) (v := 64) dX2_init_44 (by decide) ?_
      refine W_iastore (pc := 46) dX2_init_46 rfl (vp_in_nI hlt (by decide)) (by rw [nI_clamp (by omega), fil_s]) ?_
      refine inc_2_1_1_a (pc := 47) dX2_init_47 ?_
      refine R_goto (pc := 50) 33 dX2_init_50 (by decide) ?_
      rw [nI_1]
      exact ih (j + 1) (by omega)
  refine R_weq (KF4 (fil 64 0)) (by rw [fil_0]; rfl) ?_
  exact HL33 8 0 (by omega)
def KP_X1_init_58 : VW := [.inr (8, [.ref 1, .ref 12, .ref 56, .null, .null, .null, .null, .null, .null, .int 0]), .inr (0, [.ref 2, .ref 3, .ref 4, .ref 5, .ref 6, .ref 7, .ref 8, .ref 9, .ref 10, .ref 11, .int 0, .int 0, .int 999]), .inl (0, 20, .inl (fun _ => 0)), .inl (0, 20, .inl (fun _ => 0)), .inl (0, 20, .inl (fun _ => 0)), .inl (0, 20, .inl (fun _ => 0)), .inl (1, 20, .inr (.inl (fun _ => 0))), .inl (0, 20, .inl (fun _ => 0)), .inl (0, 20, .inl (fun _ => 0)), .inl (0, 20, .inl (fun _ => 0)), .inl (1, 20, .inr (.inl (fun _ => 0))), .inl (0, 20, .inl (fun _ => 0)), .inr (3, [.ref 1, .ref 13, .ref 34, .ref 55, .int 2]), .inl (3, 20, .inr (.inr (.inr (.inr (fun i => if i < 20 then some (14 + i) else none))))), .inl (0, 20, .inl (fun _ => 0)), .inl (0, 20, .inl (fun _ => 0)), .inl (0, 20, .inl (fun _ => 0)), .inl (0, 20, .inl (fun _ => 0)), .inl (0, 20, .inl (fun _ => 0)), .inl (0, 20, .inl (fun _ => 0)), .inl (0, 20, .inl (fun _ => 0)), .inl (0, 20, .inl (fun _ => 0)), .inl (0, 20, .inl (fun _ => 0)), .inl (0, 20, .inl (fun _ => 0)), .inl (0, 20, .inl (fun _ => 0)), .inl (0, 20, .inl (fun _ => 0)), .inl (0, 20, .inl (fun _ => 0)), .inl (0, 20, .inl (fun _ => 0)), .inl (0, 20, .inl (fun _ => 0)), .inl (0, 20, .inl (fun _ => 0)), .inl (0, 20, .inl (fun _ => 0)), .inl (0, 20, .inl (fun _ => 0)), .inl (0, 20, .inl (fun _ => 0)), .inl (0, 20, .inl (fun _ => 0)), .inl (3, 20, .inr (.inr (.inr (.inr (fun i => if i < 20 then some (35 + i) else none))))), .inl (0, 20, .inl (fun _ => 0)), .inl (0, 20, .inl (fun _ => 0)), .inl (0, 20, .inl (fun _ => 0)), .inl (0, 20, .inl (fun _ => 0)), .inl (0, 20, .inl (fun _ => 0)), .inl (0, 20, .inl (fun _ => 0)), .inl (0, 20, .inl (fun _ => 0)), .inl (0, 20, .inl (fun _ => 0)), .inl (0, 20, .inl (fun _ => 0)), .inl (0, 20, .inl (fun _ => 0)), .inl (0, 20, .inl (fun _ => 0)), .inl (0, 20, .inl (fun _ => 0)), .inl (0, 20, .inl (fun _ => 0)), .inl (0, 20, .inl (fun _ => 0)), .inl (0, 20, .inl (fun _ => 0)), .inl (0, 20, .inl (fun _ => 0)), .inl (0, 20, .inl (fun _ => 0)), .inl (0, 20, .inl (fun _ => 0)), .inl (0, 20, .inl (fun _ => 0)), .inl (0, 20, .inl (fun _ => 0)), .inl (0, 9, .inl (fun _ => 0)), .inr (5, [.ref 1, .ref 57, .int 0, .int 0, .int 0]), .inl (2, 100, .inl (fun _ => 0)), .inr (1, [.null, .null, .null, .null, .null, .null, .null, .null, .null, .int 0, .null, .null, .null])]
def KQ_X1_init_58 : VW := [.inr (8, [.ref 1, .ref 12, .ref 56, .null, .null, .null, .null, .null, .null, .int 0]), .inr (0, [.ref 2, .ref 3, .ref 4, .ref 5, .ref 6, .ref 7, .ref 8, .ref 9, .ref 10, .ref 11, .int 0, .int 0, .int 999]), .inl (0, 20, .inl (fun _ => 0)), .inl (0, 20, .inl (fun _ => 0)), .inl (0, 20, .inl (fun _ => 0)), .inl (0, 20, .inl (fun _ => 0)), .inl (1, 20, .inr (.inl (fun _ => 0))), .inl (0, 20, .inl (fun _ => 0)), .inl (0, 20, .inl (fun _ => 0)), .inl (0, 20, .inl (fun _ => 0)), .inl (1, 20, .inr (.inl (fun _ => 0))), .inl (0, 20, .inl (fun _ => 0)), .inr (3, [.ref 1, .ref 13, .ref 34, .ref 55, .int 2]), .inl (3, 20, .inr (.inr (.inr (.inr (fun i => if i < 20 then some (14 + i) else none))))), .inl (0, 20, .inl (fun _ => 0)), .inl (0, 20, .inl (fun _ => 0)), .inl (0, 20, .inl (fun _ => 0)), .inl (0, 20, .inl (fun _ => 0)), .inl (0, 20, .inl (fun _ => 0)), .inl (0, 20, .inl (fun _ => 0)), .inl (0, 20, .inl (fun _ => 0)), .inl (0, 20, .inl (fun _ => 0)), .inl (0, 20, .inl (fun _ => 0)), .inl (0, 20, .inl (fun _ => 0)), .inl (0, 20, .inl (fun _ => 0)), .inl (0, 20, .inl (fun _ => 0)), .inl (0, 20, .inl (fun _ => 0)), .inl (0, 20, .inl (fun _ => 0)), .inl (0, 20, .inl (fun _ => 0)), .inl (0, 20, .inl (fun _ => 0)), .inl (0, 20, .inl (fun _ => 0)), .inl (0, 20, .inl (fun _ => 0)), .inl (0, 20, .inl (fun _ => 0)), .inl (0, 20, .inl (fun _ => 0)), .inl (3, 20, .inr (.inr (.inr (.inr (fun i => if i < 20 then some (35 + i) else none))))), .inl (0, 20, .inl (fun _ => 0)), .inl (0, 20, .inl (fun _ => 0)), .inl (0, 20, .inl (fun _ => 0)), .inl (0, 20, .inl (fun _ => 0)), .inl (0, 20, .inl (fun _ => 0)), .inl (0, 20, .inl (fun _ => 0)), .inl (0, 20, .inl (fun _ => 0)), .inl (0, 20, .inl (fun _ => 0)), .inl (0, 20, .inl (fun _ => 0)), .inl (0, 20, .inl (fun _ => 0)), .inl (0, 20, .inl (fun _ => 0)), .inl (0, 20, .inl (fun _ => 0)), .inl (0, 20, .inl (fun _ => 0)), .inl (0, 20, .inl (fun _ => 0)), .inl (0, 20, .inl (fun _ => 0)), .inl (0, 20, .inl (fun _ => 0)), .inl (0, 20, .inl (fun _ => 0)), .inl (0, 20, .inl (fun _ => 0)), .inl (0, 20, .inl (fun _ => 0)), .inl (0, 20, .inl (fun _ => 0)), .inl (0, 9, .inl (fun _ => 0)), .inr (5, [.ref 1, .ref 57, .int 0, .int 0, .int 0]), .inl (2, 100, .inl (fun _ => 0)), .inr (1, [.ref 1, .ref 12, .ref 59, .ref 60, .ref 61, .ref 62, .ref 63, .ref 84, .ref 85, .int 0, .ref 86, .ref 89, .ref 92]), .inl (0, 8, .inl (fun _ => 0)), .inl (0, 8, .inl (fil 20000 8)), .inl (0, 5, .inl (fun _ => 0)), .inl (0, 5, .inl (fil 20000 5)), .inl (3, 20, .inr (.inr (.inr (.inr (fun i => if i < 20 then some (64 + i) else none))))), .inl (0, 8, .inl (fil 2 8)), .inl (0, 8, .inl (fil 2 8)), .inl (0, 8, .inl (fil 2 8)), .inl (0, 8, .inl (fil 2 8)), .inl (0, 8, .inl (fil 2 8)), .inl (0, 8, .inl (fil 2 8)), .inl (0, 8, .inl (fil 2 8)), .inl (0, 8, .inl (fil 2 8)), .inl (0, 8, .inl (fil 2 8)), .inl (0, 8, .inl (fil 2 8)), .inl (0, 8, .inl (fil 2 8)), .inl (0, 8, .inl (fil 2 8)), .inl (0, 8, .inl (fil 2 8)), .inl (0, 8, .inl (fil 2 8)), .inl (0, 8, .inl (fil 2 8)), .inl (0, 8, .inl (fil 2 8)), .inl (0, 8, .inl (fil 2 8)), .inl (0, 8, .inl (fil 2 8)), .inl (0, 8, .inl (fil 2 8)), .inl (0, 8, .inl (fil 2 8)), .inl (0, 12, .inl (fun _ => 0)), .inl (0, 12, .inl (fun _ => 0)), .inr (7, [.ref 87, .ref 88, .int 0]), .inl (0, 20, .inl (fun _ => 0)), .inl (0, 20, .inl (fun _ => 0)), .inr (7, [.ref 90, .ref 91, .int 0]), .inl (0, 20, .inl (fun _ => 0)), .inl (0, 20, .inl (fun _ => 0)), .inl (0, 20, .inl (fun _ => 0))]
def KF1 (f : Nat → Int32) : VW := [.inr (8, [.ref 1, .ref 12, .ref 56, .null, .null, .null, .null, .null, .null, .int 0]), .inr (0, [.ref 2, .ref 3, .ref 4, .ref 5, .ref 6, .ref 7, .ref 8, .ref 9, .ref 10, .ref 11, .int 0, .int 0, .int 999]), .inl (0, 20, .inl (fun _ => 0)), .inl (0, 20, .inl (fun _ => 0)), .inl (0, 20, .inl (fun _ => 0)), .inl (0, 20, .inl (fun _ => 0)), .inl (1, 20, .inr (.inl (fun _ => 0))), .inl (0, 20, .inl (fun _ => 0)), .inl (0, 20, .inl (fun _ => 0)), .inl (0, 20, .inl (fun _ => 0)), .inl (1, 20, .inr (.inl (fun _ => 0))), .inl (0, 20, .inl (fun _ => 0)), .inr (3, [.ref 1, .ref 13, .ref 34, .ref 55, .int 2]), .inl (3, 20, .inr (.inr (.inr (.inr (fun i => if i < 20 then some (14 + i) else none))))), .inl (0, 20, .inl (fun _ => 0)), .inl (0, 20, .inl (fun _ => 0)), .inl (0, 20, .inl (fun _ => 0)), .inl (0, 20, .inl (fun _ => 0)), .inl (0, 20, .inl (fun _ => 0)), .inl (0, 20, .inl (fun _ => 0)), .inl (0, 20, .inl (fun _ => 0)), .inl (0, 20, .inl (fun _ => 0)), .inl (0, 20, .inl (fun _ => 0)), .inl (0, 20, .inl (fun _ => 0)), .inl (0, 20, .inl (fun _ => 0)), .inl (0, 20, .inl (fun _ => 0)), .inl (0, 20, .inl (fun _ => 0)), .inl (0, 20, .inl (fun _ => 0)), .inl (0, 20, .inl (fun _ => 0)), .inl (0, 20, .inl (fun _ => 0)), .inl (0, 20, .inl (fun _ => 0)), .inl (0, 20, .inl (fun _ => 0)), .inl (0, 20, .inl (fun _ => 0)), .inl (0, 20, .inl (fun _ => 0)), .inl (3, 20, .inr (.inr (.inr (.inr (fun i => if i < 20 then some (35 + i) else none))))), .inl (0, 20, .inl (fun _ => 0)), .inl (0, 20, .inl (fun _ => 0)), .inl (0, 20, .inl (fun _ => 0)), .inl (0, 20, .inl (fun _ => 0)), .inl (0, 20, .inl (fun _ => 0)), .inl (0, 20, .inl (fun _ => 0)), .inl (0, 20, .inl (fun _ => 0)), .inl (0, 20, .inl (fun _ => 0)), .inl (0, 20, .inl (fun _ => 0)), .inl (0, 20, .inl (fun _ => 0)), .inl (0, 20, .inl (fun _ => 0)), .inl (0, 20, .inl (fun _ => 0)), .inl (0, 20, .inl (fun _ => 0)), .inl (0, 20, .inl (fun _ => 0)), .inl (0, 20, .inl (fun _ => 0)), .inl (0, 20, .inl (fun _ => 0)), .inl (0, 20, .inl (fun _ => 0)), .inl (0, 20, .inl (fun _ => 0)), .inl (0, 20, .inl (fun _ => 0)), .inl (0, 20, .inl (fun _ => 0)), .inl (0, 9, .inl (fun _ => 0)), .inr (5, [.ref 1, .ref 57, .int 0, .int 0, .int 0]), .inl (2, 100, .inl (fun _ => 0)), .inr (1, [.ref 1, .ref 12, .ref 59, .ref 60, .ref 61, .ref 62, .ref 63, .ref 84, .ref 85, .int 0, .ref 86, .ref 89, .ref 92]), .inl (0, 8, .inl (fun _ => 0)), .inl (0, 8, .inl f), .inl (0, 5, .inl (fun _ => 0)), .inl (0, 5, .inl (fun _ => 0)), .inl (3, 20, .inr (.inr (.inr (.inr (fun i => if i < 20 then some (64 + i) else none))))), .inl (0, 8, .inl (fun _ => 0)), .inl (0, 8, .inl (fun _ => 0)), .inl (0, 8, .inl (fun _ => 0)), .inl (0, 8, .inl (fun _ => 0)), .inl (0, 8, .inl (fun _ => 0)), .inl (0, 8, .inl (fun _ => 0)), .inl (0, 8, .inl (fun _ => 0)), .inl (0, 8, .inl (fun _ => 0)), .inl (0, 8, .inl (fun _ => 0)), .inl (0, 8, .inl (fun _ => 0)), .inl (0, 8, .inl (fun _ => 0)), .inl (0, 8, .inl (fun _ => 0)), .inl (0, 8, .inl (fun _ => 0)), .inl (0, 8, .inl (fun _ => 0)), .inl (0, 8, .inl (fun _ => 0)), .inl (0, 8, .inl (fun _ => 0)), .inl (0, 8, .inl (fun _ => 0)), .inl (0, 8, .inl (fun _ => 0)), .inl (0, 8, .inl (fun _ => 0)), .inl (0, 8, .inl (fun _ => 0)), .inl (0, 12, .inl (fun _ => 0)), .inl (0, 12, .inl (fun _ => 0)), .inr (7, [.ref 87, .ref 88, .int 0]), .inl (0, 20, .inl (fun _ => 0)), .inl (0, 20, .inl (fun _ => 0)), .inr (7, [.ref 90, .ref 91, .int 0]), .inl (0, 20, .inl (fun _ => 0)), .inl (0, 20, .inl (fun _ => 0)), .inl (0, 20, .inl (fun _ => 0))]
def KF2 (f : Nat → Int32) : VW := [.inr (8, [.ref 1, .ref 12, .ref 56, .null, .null, .null, .null, .null, .null, .int 0]), .inr (0, [.ref 2, .ref 3, .ref 4, .ref 5, .ref 6, .ref 7, .ref 8, .ref 9, .ref 10, .ref 11, .int 0, .int 0, .int 999]), .inl (0, 20, .inl (fun _ => 0)), .inl (0, 20, .inl (fun _ => 0)), .inl (0, 20, .inl (fun _ => 0)), .inl (0, 20, .inl (fun _ => 0)), .inl (1, 20, .inr (.inl (fun _ => 0))), .inl (0, 20, .inl (fun _ => 0)), .inl (0, 20, .inl (fun _ => 0)), .inl (0, 20, .inl (fun _ => 0)), .inl (1, 20, .inr (.inl (fun _ => 0))), .inl (0, 20, .inl (fun _ => 0)), .inr (3, [.ref 1, .ref 13, .ref 34, .ref 55, .int 2]), .inl (3, 20, .inr (.inr (.inr (.inr (fun i => if i < 20 then some (14 + i) else none))))), .inl (0, 20, .inl (fun _ => 0)), .inl (0, 20, .inl (fun _ => 0)), .inl (0, 20, .inl (fun _ => 0)), .inl (0, 20, .inl (fun _ => 0)), .inl (0, 20, .inl (fun _ => 0)), .inl (0, 20, .inl (fun _ => 0)), .inl (0, 20, .inl (fun _ => 0)), .inl (0, 20, .inl (fun _ => 0)), .inl (0, 20, .inl (fun _ => 0)), .inl (0, 20, .inl (fun _ => 0)), .inl (0, 20, .inl (fun _ => 0)), .inl (0, 20, .inl (fun _ => 0)), .inl (0, 20, .inl (fun _ => 0)), .inl (0, 20, .inl (fun _ => 0)), .inl (0, 20, .inl (fun _ => 0)), .inl (0, 20, .inl (fun _ => 0)), .inl (0, 20, .inl (fun _ => 0)), .inl (0, 20, .inl (fun _ => 0)), .inl (0, 20, .inl (fun _ => 0)), .inl (0, 20, .inl (fun _ => 0)), .inl (3, 20, .inr (.inr (.inr (.inr (fun i => if i < 20 then some (35 + i) else none))))), .inl (0, 20, .inl (fun _ => 0)), .inl (0, 20, .inl (fun _ => 0)), .inl (0, 20, .inl (fun _ => 0)), .inl (0, 20, .inl (fun _ => 0)), .inl (0, 20, .inl (fun _ => 0)), .inl (0, 20, .inl (fun _ => 0)), .inl (0, 20, .inl (fun _ => 0)), .inl (0, 20, .inl (fun _ => 0)), .inl (0, 20, .inl (fun _ => 0)), .inl (0, 20, .inl (fun _ => 0)), .inl (0, 20, .inl (fun _ => 0)), .inl (0, 20, .inl (fun _ => 0)), .inl (0, 20, .inl (fun _ => 0)), .inl (0, 20, .inl (fun _ => 0)), .inl (0, 20, .inl (fun _ => 0)), .inl (0, 20, .inl (fun _ => 0)), .inl (0, 20, .inl (fun _ => 0)), .inl (0, 20, .inl (fun _ => 0)), .inl (0, 20, .inl (fun _ => 0)), .inl (0, 20, .inl (fun _ => 0)), .inl (0, 9, .inl (fun _ => 0)), .inr (5, [.ref 1, .ref 57, .int 0, .int 0, .int 0]), .inl (2, 100, .inl (fun _ => 0)), .inr (1, [.ref 1, .ref 12, .ref 59, .ref 60, .ref 61, .ref 62, .ref 63, .ref 84, .ref 85, .int 0, .ref 86, .ref 89, .ref 92]), .inl (0, 8, .inl (fun _ => 0)), .inl (0, 8, .inl (fil 20000 8)), .inl (0, 5, .inl (fun _ => 0)), .inl (0, 5, .inl f), .inl (3, 20, .inr (.inr (.inr (.inr (fun i => if i < 20 then some (64 + i) else none))))), .inl (0, 8, .inl (fun _ => 0)), .inl (0, 8, .inl (fun _ => 0)), .inl (0, 8, .inl (fun _ => 0)), .inl (0, 8, .inl (fun _ => 0)), .inl (0, 8, .inl (fun _ => 0)), .inl (0, 8, .inl (fun _ => 0)), .inl (0, 8, .inl (fun _ => 0)), .inl (0, 8, .inl (fun _ => 0)), .inl (0, 8, .inl (fun _ => 0)), .inl (0, 8, .inl (fun _ => 0)), .inl (0, 8, .inl (fun _ => 0)), .inl (0, 8, .inl (fun _ => 0)), .inl (0, 8, .inl (fun _ => 0)), .inl (0, 8, .inl (fun _ => 0)), .inl (0, 8, .inl (fun _ => 0)), .inl (0, 8, .inl (fun _ => 0)), .inl (0, 8, .inl (fun _ => 0)), .inl (0, 8, .inl (fun _ => 0)), .inl (0, 8, .inl (fun _ => 0)), .inl (0, 8, .inl (fun _ => 0)), .inl (0, 12, .inl (fun _ => 0)), .inl (0, 12, .inl (fun _ => 0)), .inr (7, [.ref 87, .ref 88, .int 0]), .inl (0, 20, .inl (fun _ => 0)), .inl (0, 20, .inl (fun _ => 0)), .inr (7, [.ref 90, .ref 91, .int 0]), .inl (0, 20, .inl (fun _ => 0)), .inl (0, 20, .inl (fun _ => 0)), .inl (0, 20, .inl (fun _ => 0))]
def KF3 (f : Nat → Nat → Int32) : VW := [.inr (8, [.ref 1, .ref 12, .ref 56, .null, .null, .null, .null, .null, .null, .int 0]), .inr (0, [.ref 2, .ref 3, .ref 4, .ref 5, .ref 6, .ref 7, .ref 8, .ref 9, .ref 10, .ref 11, .int 0, .int 0, .int 999]), .inl (0, 20, .inl (fun _ => 0)), .inl (0, 20, .inl (fun _ => 0)), .inl (0, 20, .inl (fun _ => 0)), .inl (0, 20, .inl (fun _ => 0)), .inl (1, 20, .inr (.inl (fun _ => 0))), .inl (0, 20, .inl (fun _ => 0)), .inl (0, 20, .inl (fun _ => 0)), .inl (0, 20, .inl (fun _ => 0)), .inl (1, 20, .inr (.inl (fun _ => 0))), .inl (0, 20, .inl (fun _ => 0)), .inr (3, [.ref 1, .ref 13, .ref 34, .ref 55, .int 2]), .inl (3, 20, .inr (.inr (.inr (.inr (fun i => if i < 20 then some (14 + i) else none))))), .inl (0, 20, .inl (fun _ => 0)), .inl (0, 20, .inl (fun _ => 0)), .inl (0, 20, .inl (fun _ => 0)), .inl (0, 20, .inl (fun _ => 0)), .inl (0, 20, .inl (fun _ => 0)), .inl (0, 20, .inl (fun _ => 0)), .inl (0, 20, .inl (fun _ => 0)), .inl (0, 20, .inl (fun _ => 0)), .inl (0, 20, .inl (fun _ => 0)), .inl (0, 20, .inl (fun _ => 0)), .inl (0, 20, .inl (fun _ => 0)), .inl (0, 20, .inl (fun _ => 0)), .inl (0, 20, .inl (fun _ => 0)), .inl (0, 20, .inl (fun _ => 0)), .inl (0, 20, .inl (fun _ => 0)), .inl (0, 20, .inl (fun _ => 0)), .inl (0, 20, .inl (fun _ => 0)), .inl (0, 20, .inl (fun _ => 0)), .inl (0, 20, .inl (fun _ => 0)), .inl (0, 20, .inl (fun _ => 0)), .inl (3, 20, .inr (.inr (.inr (.inr (fun i => if i < 20 then some (35 + i) else none))))), .inl (0, 20, .inl (fun _ => 0)), .inl (0, 20, .inl (fun _ => 0)), .inl (0, 20, .inl (fun _ => 0)), .inl (0, 20, .inl (fun _ => 0)), .inl (0, 20, .inl (fun _ => 0)), .inl (0, 20, .inl (fun _ => 0)), .inl (0, 20, .inl (fun _ => 0)), .inl (0, 20, .inl (fun _ => 0)), .inl (0, 20, .inl (fun _ => 0)), .inl (0, 20, .inl (fun _ => 0)), .inl (0, 20, .inl (fun _ => 0)), .inl (0, 20, .inl (fun _ => 0)), .inl (0, 20, .inl (fun _ => 0)), .inl (0, 20, .inl (fun _ => 0)), .inl (0, 20, .inl (fun _ => 0)), .inl (0, 20, .inl (fun _ => 0)), .inl (0, 20, .inl (fun _ => 0)), .inl (0, 20, .inl (fun _ => 0)), .inl (0, 20, .inl (fun _ => 0)), .inl (0, 20, .inl (fun _ => 0)), .inl (0, 9, .inl (fun _ => 0)), .inr (5, [.ref 1, .ref 57, .int 0, .int 0, .int 0]), .inl (2, 100, .inl (fun _ => 0)), .inr (1, [.ref 1, .ref 12, .ref 59, .ref 60, .ref 61, .ref 62, .ref 63, .ref 84, .ref 85, .int 0, .ref 86, .ref 89, .ref 92]), .inl (0, 8, .inl (fun _ => 0)), .inl (0, 8, .inl (fil 20000 8)), .inl (0, 5, .inl (fun _ => 0)), .inl (0, 5, .inl (fil 20000 5)), .inl (3, 20, .inr (.inr (.inr (.inr (fun i => if i < 20 then some (64 + i) else none))))), .inl (0, 8, .inl (f 0)), .inl (0, 8, .inl (f 1)), .inl (0, 8, .inl (f 2)), .inl (0, 8, .inl (f 3)), .inl (0, 8, .inl (f 4)), .inl (0, 8, .inl (f 5)), .inl (0, 8, .inl (f 6)), .inl (0, 8, .inl (f 7)), .inl (0, 8, .inl (f 8)), .inl (0, 8, .inl (f 9)), .inl (0, 8, .inl (f 10)), .inl (0, 8, .inl (f 11)), .inl (0, 8, .inl (f 12)), .inl (0, 8, .inl (f 13)), .inl (0, 8, .inl (f 14)), .inl (0, 8, .inl (f 15)), .inl (0, 8, .inl (f 16)), .inl (0, 8, .inl (f 17)), .inl (0, 8, .inl (f 18)), .inl (0, 8, .inl (f 19)), .inl (0, 12, .inl (fun _ => 0)), .inl (0, 12, .inl (fun _ => 0)), .inr (7, [.ref 87, .ref 88, .int 0]), .inl (0, 20, .inl (fun _ => 0)), .inl (0, 20, .inl (fun _ => 0)), .inr (7, [.ref 90, .ref 91, .int 0]), .inl (0, 20, .inl (fun _ => 0)), .inl (0, 20, .inl (fun _ => 0)), .inl (0, 20, .inl (fun _ => 0))]
def rowf (n : Nat) : Nat → Nat → Int32 := fun r => if r < n then fil 2 8 else fun _ => 0
theorem rowf_in (n : Nat) : va_up (rowf n) n (fil 2 0) = rowf n := by
  funext r
  unfold va_up rowf
  by_cases h : r = n
  · subst h
    simp [fil_0]
  · simp [h]
theorem rowf_s (n : Nat) : va_up (rowf n) n (fil 2 8) = rowf (n + 1) := by
  funext r
  unfold va_up rowf
  by_cases h : r = n
  · subst h
    simp
  · by_cases h2 : r < n
    · simp [h, h2, Nat.lt_succ_of_lt h2]
    · simp [h, h2, show ¬ r < n + 1 by omega]
set_option maxRecDepth 100000 in
theorem KF3_get (f : Nat → Nat → Int32) : ∀ (i : Nat), i < 20 → (KF3 f)[64 + i]? = some (.inl (0, 8, .inl (f i)))
  | 0, _ => rfl
  | 1, _ => rfl
  | 2, _ => rfl
  | 3, _ => rfl
  | 4, _ => rfl
  | 5, _ => rfl
  | 6, _ => rfl
  | 7, _ => rfl
  | 8, _ => rfl
  | 9, _ => rfl
  | 10, _ => rfl
  | 11, _ => rfl
  | 12, _ => rfl
  | 13, _ => rfl
  | 14, _ => rfl
  | 15, _ => rfl
  | 16, _ => rfl
  | 17, _ => rfl
  | 18, _ => rfl
  | 19, _ => rfl
  | i + 20, h => absurd h (by omega)
set_option maxRecDepth 100000 in
theorem KF3_set (f : Nat → Nat → Int32) (g : Nat → Int32) : ∀ (i : Nat), i < 20 → (KF3 f).set (64 + i) (.inl (0, 8, .inl g)) = KF3 (va_up f i g)
  | 0, _ => rfl
  | 1, _ => rfl
  | 2, _ => rfl
  | 3, _ => rfl
  | 4, _ => rfl
  | 5, _ => rfl
  | 6, _ => rfl
  | 7, _ => rfl
  | 8, _ => rfl
  | 9, _ => rfl
  | 10, _ => rfl
  | 11, _ => rfl
  | 12, _ => rfl
  | 13, _ => rfl
  | 14, _ => rfl
  | 15, _ => rfl
  | 16, _ => rfl
  | 17, _ => rfl
  | 18, _ => rfl
  | 19, _ => rfl
  | i + 20, h => absurd h (by omega)
set_option maxRecDepth 100000 in
set_option maxHeartbeats 40000000 in
theorem sp_X1_init_58 {G : vG} {l : Launch} : Sp G l yX1_init cX1_init 5 none 2 34 336 [.ref 58, .ref 1, .ref 12] KP_X1_init_58 (QV (fun w2 => w2 = KQ_X1_init_58)) := by
  refine Sp_of_R [(some (.ref 58)), (some (.ref 1)), (some (.ref 12)), none, none] [none, none] rfl (by simp) rfl (Nat.le_of_ble_eq_true rfl) ?_
  refine R_aload_n (pc := 0) dX1_init_0 rfl rfl ?_
  refine R_objInit (pc := 1) wo_X1 dX1_init_1 (by decide) (by decide) ?_
  refine R_aload_n (pc := 4) dX1_init_4 rfl rfl ?_
  refine R_bipush (pc := 5) (v := 8) dX1_init_5 (by decide) ?_
  refine C_newI (pc := 7) 59 rfl (by decide) rfl (by decide) (by decide) (by decide) (by decide) dX1_init_7 ?_
  refine p_X1_9 (pc := 9) rfl rfl dX1_init_9 rfl (by decide) rfl rfl rfl ?_
  refine R_aload_n (pc := 12) dX1_init_12 rfl rfl ?_
  refine R_bipush (pc := 13) (v := 8) dX1_init_13 (by decide) ?_
  refine C_newI (pc := 15) 60 rfl (by decide) rfl (by decide) (by decide) (by decide) (by decide) dX1_init_15 ?_
  refine p_X1_15 (pc := 17) rfl rfl dX1_init_17 rfl (by decide) rfl rfl rfl ?_
  refine R_aload_n (pc := 20) dX1_init_20 rfl rfl ?_
  refine R_iconst (pc := 21) (v := 5) dX1_init_21 (by decide) ?_
  refine C_newI (pc := 22) 61 rfl (by decide) rfl (by decide) (by decide) (by decide) (by decide) dX1_init_22 ?_
  refine p_X1_18 (pc := 24) rfl rfl dX1_init_24 rfl (by decide) rfl rfl rfl ?_
  refine R_aload_n (pc := 27) dX1_init_27 rfl rfl ?_
  refine R_iconst (pc := 28) (v := 5) dX1_init_28 (by decide) ?_
  refine C_newI (pc := 29) 62 rfl (by decide) rfl (by decide) (by decide) (by decide) (by decide) dX1_init_29 ?_
  refine p_X1_21 (pc := 31) rfl rfl dX1_init_31 rfl (by decide) rfl rfl rfl ?_
  refine R_aload_n (pc := 34) dX1_init_34 rfl rfl ?_
  refine R_bipush (pc := 35) (v := 20) dX1_init_35 (by decide) ?_
  refine R_bipush (pc := 37) (v := 8) dX1_init_37 (by decide) ?_
  refine C_mna (pc := 39) 63 rfl _ wcl_157 rfl rfl (by decide) (by decide) (by decide) (by decide) (by decide) (by decide) (by decide) dX1_init_39 rfl ?_
  refine p_X1_26 (pc := 43) rfl rfl dX1_init_43 rfl (by decide) rfl rfl rfl ?_
  refine R_aload_n (pc := 46) dX1_init_46 rfl rfl ?_
  refine R_bipush (pc := 47) (v := 12) dX1_init_47 (by decide) ?_
  refine C_newI (pc := 49) 84 rfl (by decide) rfl (by decide) (by decide) (by decide) (by decide) dX1_init_49 ?_
  refine p_X1_29 (pc := 51) rfl rfl dX1_init_51 rfl (by decide) rfl rfl rfl ?_
  refine R_aload_n (pc := 54) dX1_init_54 rfl rfl ?_
  refine R_bipush (pc := 55) (v := 12) dX1_init_55 (by decide) ?_
  refine C_newI (pc := 57) 85 rfl (by decide) rfl (by decide) (by decide) (by decide) (by decide) dX1_init_57 ?_
  refine p_X1_32 (pc := 59) rfl rfl dX1_init_59 rfl (by decide) rfl rfl rfl ?_
  refine R_aload_n (pc := 62) dX1_init_62 rfl rfl ?_
  refine C_new (pc := 63) (ci := 7) (C := RX7) (T := TX7) (N := 3) (ty := tyX7) (fs := [.null, .null, .int 0]) 86 rfl rfl inX7 tyX7_ok wcl_158 wins_X7 wini_X7 (fun j hj => by rcases (show j = 0 ∨ j = 1 ∨ j = 2 by omega) with rfl | rfl | rfl <;> rfl) rfl (by decide) (by decide) (by decide) dX1_init_63 ?_
  refine R_dup (pc := 66) dX1_init_66 rfl ?_
  refine R_weq KP_X7_init_86 rfl ?_
  refine k_X1_37 (pc := 67) sp_X7_init_86 rfl (by decide) (by decide) (by decide) (by decide) dX1_init_67 (fun w2 h => ?_)
  subst h
  refine p_X1_38 (pc := 70) rfl rfl dX1_init_70 rfl (by decide) rfl rfl rfl ?_
  refine R_aload_n (pc := 73) dX1_init_73 rfl rfl ?_
  refine C_new (pc := 74) (ci := 7) (C := RX7) (T := TX7) (N := 3) (ty := tyX7) (fs := [.null, .null, .int 0]) 89 rfl rfl inX7 tyX7_ok wcl_158 wins_X7 wini_X7 (fun j hj => by rcases (show j = 0 ∨ j = 1 ∨ j = 2 by omega) with rfl | rfl | rfl <;> rfl) rfl (by decide) (by decide) (by decide) dX1_init_74 ?_
  refine R_dup (pc := 77) dX1_init_77 rfl ?_
  refine R_weq KP_X7_init_89 rfl ?_
  refine k_X1_37 (pc := 78) sp_X7_init_89 rfl (by decide) (by decide) (by decide) (by decide) dX1_init_78 (fun w2 h => ?_)
  subst h
  refine p_X1_42 (pc := 81) rfl rfl dX1_init_81 rfl (by decide) rfl rfl rfl ?_
  refine R_aload_n (pc := 84) dX1_init_84 rfl rfl ?_
  refine R_bipush (pc := 85) (v := 20) dX1_init_85 (by decide) ?_
  refine C_newI (pc := 87) 92 rfl (by decide) rfl (by decide) (by decide) (by decide) (by decide) dX1_init_87 ?_
  refine p_X1_45 (pc := 89) rfl rfl dX1_init_89 rfl (by decide) rfl rfl rfl ?_
  refine R_aload_n (pc := 92) dX1_init_92 rfl rfl ?_
  refine R_aload_n (pc := 93) dX1_init_93 rfl rfl ?_
  refine p_X1_48 (pc := 94) rfl rfl dX1_init_94 rfl (by decide) rfl rfl rfl ?_
  refine R_aload_n (pc := 97) dX1_init_97 rfl rfl ?_
  refine R_aload_n (pc := 98) dX1_init_98 rfl rfl ?_
  refine p_X1_52 (pc := 99) rfl rfl dX1_init_99 rfl (by decide) rfl rfl rfl ?_
  refine R_iconst (pc := 102) (v := 0) dX1_init_102 (by decide) ?_
  refine st_5_3_i_a (pc := 103) dX1_init_103 ?_
  have HL104 : ∀ (q j : Nat), j + q = 8 → R G l yX1_init cX1_init 5 none 2 34 336 (QV (fun w2 => w2 = KQ_X1_init_58)) 104 [(some (.ref 58)), (some (.ref 1)), (some (.ref 12)), (some (.int (nI j))), none] [] (KF1 (fil 20000 j)) 34 336 := by
    intro q
    induction q with
    | zero =>
      intro j hj
      obtain rfl : j = 8 := by omega
      refine R_iload_n (pc := 104) dX1_init_104 rfl rfl ?_
      refine R_bipush (pc := 105) (v := 8) dX1_init_105 (by decide) ?_
      refine R_icge (pc := 107) 125 dX1_init_107 (by decide) (fun _ => ?_) (fun h => absurd (by decide) h)
      refine R_iconst (pc := 125) (v := 0) dX1_init_125 (by decide) ?_
      refine st_5_3_i_a (pc := 126) dX1_init_126 ?_
      have HL127 : ∀ (q j : Nat), j + q = 5 → R G l yX1_init cX1_init 5 none 2 34 336 (QV (fun w2 => w2 = KQ_X1_init_58)) 127 [(some (.ref 58)), (some (.ref 1)), (some (.ref 12)), (some (.int (nI j))), none] [] (KF2 (fil 20000 j)) 34 336 := by
        intro q
        induction q with
        | zero =>
          intro j hj
          obtain rfl : j = 5 := by omega
          refine R_iload_n (pc := 127) dX1_init_127 rfl rfl ?_
          refine R_iconst (pc := 128) (v := 5) dX1_init_128 (by decide) ?_
          refine R_icge (pc := 129) 147 dX1_init_129 (by decide) (fun _ => ?_) (fun h => absurd (by decide) h)
          refine R_iconst (pc := 147) (v := 0) dX1_init_147 (by decide) ?_
          refine st_5_3_i_a (pc := 148) dX1_init_148 ?_
          have HO : ∀ (q i : Nat) (o4 : Option Value), i + q = 20 → R G l yX1_init cX1_init 5 none 2 34 336 (QV (fun w2 => w2 = KQ_X1_init_58)) 149 [(some (.ref 58)), (some (.ref 1)), (some (.ref 12)), some (.int (nI i)), o4] [] (KF3 (rowf i)) 34 336 := by
            intro q
            induction q with
            | zero =>
              intro i o4 hi
              obtain rfl : i = 20 := by omega
              refine R_iload_n (pc := 149) dX1_init_149 rfl rfl ?_
              refine R_bipush (pc := 150) (v := 20) dX1_init_150 (by decide) ?_
              refine R_icge (pc := 152) 187 dX1_init_152 (by decide) (fun _ => ?_) (fun h => absurd (by decide) h)
              exact R_vret (pc := 187) dX1_init_187 rfl (by decide) (by decide) ⟨rfl, rfl⟩
            | succ q ih =>
              intro i o4 hi
              have hlt : i < 20 := by omega
              refine R_iload_n (pc := 149) dX1_init_149 rfl rfl ?_
              refine R_bipush (pc := 150) (v := 20) dX1_init_150 (by decide) ?_
              refine R_icge (pc := 152) 187 dX1_init_152 (by decide) (fun h => absurd h (nI_ge hlt (by decide))) (fun _ => ?_)
              refine R_iconst (pc := 155) (v := 0) dX1_init_155 (by decide) ?_
              refine st_5_4_i_i (pc := 156) dX1_init_156 ?_
              have HI : ∀ (u j : Nat), j + u = 8 → R G l yX1_init cX1_init 5 none 2 34 336 (QV (fun w2 => w2 = KQ_X1_init_58)) 158 [(some (.ref 58)), (some (.ref 1)), (some (.ref 12)), some (.int (nI i)), some (.int (nI j))] [] (KF3 (va_up (rowf i) i (fil 2 j))) 34 336 := by
                intro u
                induction u with
                | zero =>
                  intro j hj
                  obtain rfl : j = 8 := by omega
                  refine R_iload (pc := 158) dX1_init_158 rfl ?_
                  refine R_bipush (pc := 160) (v := 8) dX1_init_160 (by decide) ?_
                  refine R_icge (pc := 162) 181 dX1_init_162 (by decide) (fun _ => ?_) (fun h => absurd (by decide) h)
                  refine inc_5_3_1_a (pc := 181) dX1_init_181 ?_
                  refine R_goto (pc := 184) 149 dX1_init_184 (by decide) ?_
                  rw [nI_1, rowf_s]
                  exact ih (i + 1) _ (by omega)
                | succ u ihu =>
                  intro j hj
                  have hlj : j < 8 := by omega
                  refine R_iload (pc := 158) dX1_init_158 rfl ?_
                  refine R_bipush (pc := 160) (v := 8) dX1_init_160 (by decide) ?_
                  refine R_icge (pc := 162) 181 dX1_init_162 (by decide) (fun h => absurd h (nI_ge hlj (by decide))) (fun _ => ?_)
                  refine R_aload_n (pc := 165) dX1_init_165 rfl rfl ?_
                  refine g_X1_26 (pc := 166) rfl dX1_init_166 rfl rfl ?_
                  refine R_iload_n (pc := 169) dX1_init_169 rfl rfl ?_
                  refine R_aaload (pc := 170) (b := 64 + i) dX1_init_170 rfl (vp_in_nI hlt (by decide)) (by rw [nI_clamp (by omega)]; exact if_pos hlt) ?_
                  refine R_iload (pc := 171) dX1_init_171 rfl ?_
                  refine R_iconst (pc := 173) (v := 2) dX1_init_173 (by decide) ?_
                  refine W_iastore (pc := 174) dX1_init_174 (KF3_get _ i hlt) (vp_in_nI hlj (by decide)) (KF3_set _ _ i hlt) ?_
                  refine inc_5_4_1_i (pc := 175) dX1_init_175 ?_
                  refine R_goto (pc := 178) 158 dX1_init_178 (by decide) ?_
                  rw [nI_1, nI_clamp (by omega), va_up_self, fil_s, bx_uu]
                  exact ihu (j + 1) (by omega)
              refine R_weq (KF3 (va_up (rowf i) i (fil 2 0))) (by rw [rowf_in]) ?_
              exact HI 8 0 (by omega)
          refine R_weq (KF3 (rowf 0)) rfl ?_
          exact HO 20 0 _ (by omega)
        | succ q ih =>
          intro j hj
          have hlt : j < 5 := by omega
          refine R_iload_n (pc := 127) dX1_init_127 rfl rfl ?_
          refine R_iconst (pc := 128) (v := 5) dX1_init_128 (by decide) ?_
          refine R_icge (pc := 129) 147 dX1_init_129 (by decide) (fun h => absurd h (nI_ge hlt (by decide))) (fun _ => ?_)
          refine R_aload_n (pc := 132) dX1_init_132 rfl rfl ?_
          refine g_X1_21 (pc := 133) rfl dX1_init_133 (rfl) rfl ?_
          refine R_iload_n (pc := 136) dX1_init_136 rfl rfl ?_
          refine R_sipush (pc := 137) (v := 20000) dX1_init_137 (by decide) ?_
          refine W_iastore (pc := 140) dX1_init_140 rfl (vp_in_nI hlt (by decide)) (by rw [nI_clamp (by omega), fil_s]) ?_
          refine inc_5_3_1_a (pc := 141) dX1_init_141 ?_
          refine R_goto (pc := 144) 127 dX1_init_144 (by decide) ?_
          rw [nI_1]
          exact ih (j + 1) (by omega)
      refine R_weq (KF2 (fil 20000 0)) (by rw [fil_0]; rfl) ?_
      exact HL127 5 0 (by omega)
    | succ q ih =>
      intro j hj
      have hlt : j < 8 := by omega
      refine R_iload_n (pc := 104) dX1_init_104 rfl rfl ?_
      refine R_bipush (pc := 105) (v := 8) dX1_init_105 (by decide) ?_
      refine R_icge (pc := 107) 125 dX1_init_107 (by decide) (fun h => absurd h (nI_ge hlt (by decide))) (fun _ => ?_)
      refine R_aload_n (pc := 110) dX1_init_110 rfl rfl ?_
      refine g_X1_15 (pc := 111) rfl dX1_init_111 (rfl) rfl ?_
      refine R_iload_n (pc := 114) dX1_init_114 rfl rfl ?_
      refine R_sipush (pc := 115) (v := 20000) dX1_init_115 (by decide) ?_
      refine W_iastore (pc := 118) dX1_init_118 rfl (vp_in_nI hlt (by decide)) (by rw [nI_clamp (by omega), fil_s]) ?_
      refine inc_5_3_1_a (pc := 119) dX1_init_119 ?_
      refine R_goto (pc := 122) 104 dX1_init_122 (by decide) ?_
      rw [nI_1]
      exact ih (j + 1) (by omega)
  refine R_weq (KF1 (fil 20000 0)) (by rw [fil_0]; rfl) ?_
  exact HL104 8 0 (by omega)
def KP_X8_init_0 : VW := [.inr (8, [.null, .null, .null, .null, .null, .null, .null, .null, .null, .int 0])]
def KQ_X8_init_0 : VW := [.inr (8, [.ref 1, .ref 12, .ref 56, .ref 58, .ref 93, .ref 117, .ref 119, .ref 126, .ref 133, .int 100]), .inr (0, [.ref 2, .ref 3, .ref 4, .ref 5, .ref 6, .ref 7, .ref 8, .ref 9, .ref 10, .ref 11, .int 0, .int 0, .int 999]), .inl (0, 20, .inl (fun _ => 0)), .inl (0, 20, .inl (fun _ => 0)), .inl (0, 20, .inl (fun _ => 0)), .inl (0, 20, .inl (fun _ => 0)), .inl (1, 20, .inr (.inl (fun _ => 0))), .inl (0, 20, .inl (fun _ => 0)), .inl (0, 20, .inl (fun _ => 0)), .inl (0, 20, .inl (fun _ => 0)), .inl (1, 20, .inr (.inl (fun _ => 0))), .inl (0, 20, .inl (fun _ => 0)), .inr (3, [.ref 1, .ref 13, .ref 34, .ref 55, .int 2]), .inl (3, 20, .inr (.inr (.inr (.inr (fun i => if i < 20 then some (14 + i) else none))))), .inl (0, 20, .inl (fun _ => 0)), .inl (0, 20, .inl (fun _ => 0)), .inl (0, 20, .inl (fun _ => 0)), .inl (0, 20, .inl (fun _ => 0)), .inl (0, 20, .inl (fun _ => 0)), .inl (0, 20, .inl (fun _ => 0)), .inl (0, 20, .inl (fun _ => 0)), .inl (0, 20, .inl (fun _ => 0)), .inl (0, 20, .inl (fun _ => 0)), .inl (0, 20, .inl (fun _ => 0)), .inl (0, 20, .inl (fun _ => 0)), .inl (0, 20, .inl (fun _ => 0)), .inl (0, 20, .inl (fun _ => 0)), .inl (0, 20, .inl (fun _ => 0)), .inl (0, 20, .inl (fun _ => 0)), .inl (0, 20, .inl (fun _ => 0)), .inl (0, 20, .inl (fun _ => 0)), .inl (0, 20, .inl (fun _ => 0)), .inl (0, 20, .inl (fun _ => 0)), .inl (0, 20, .inl (fun _ => 0)), .inl (3, 20, .inr (.inr (.inr (.inr (fun i => if i < 20 then some (35 + i) else none))))), .inl (0, 20, .inl (fun _ => 0)), .inl (0, 20, .inl (fun _ => 0)), .inl (0, 20, .inl (fun _ => 0)), .inl (0, 20, .inl (fun _ => 0)), .inl (0, 20, .inl (fun _ => 0)), .inl (0, 20, .inl (fun _ => 0)), .inl (0, 20, .inl (fun _ => 0)), .inl (0, 20, .inl (fun _ => 0)), .inl (0, 20, .inl (fun _ => 0)), .inl (0, 20, .inl (fun _ => 0)), .inl (0, 20, .inl (fun _ => 0)), .inl (0, 20, .inl (fun _ => 0)), .inl (0, 20, .inl (fun _ => 0)), .inl (0, 20, .inl (fun _ => 0)), .inl (0, 20, .inl (fun _ => 0)), .inl (0, 20, .inl (fun _ => 0)), .inl (0, 20, .inl (fun _ => 0)), .inl (0, 20, .inl (fun _ => 0)), .inl (0, 20, .inl (fun _ => 0)), .inl (0, 20, .inl (fun _ => 0)), .inl (0, 9, .inl (fun _ => 0)), .inr (5, [.ref 1, .ref 57, .int 0, .int 0, .int 0]), .inl (2, 100, .inl (fun _ => 0)), .inr (1, [.ref 1, .ref 12, .ref 59, .ref 60, .ref 61, .ref 62, .ref 63, .ref 84, .ref 85, .int 0, .ref 86, .ref 89, .ref 92]), .inl (0, 8, .inl (fun _ => 0)), .inl (0, 8, .inl (fil 20000 8)), .inl (0, 5, .inl (fun _ => 0)), .inl (0, 5, .inl (fil 20000 5)), .inl (3, 20, .inr (.inr (.inr (.inr (fun i => if i < 20 then some (64 + i) else none))))), .inl (0, 8, .inl (fil 2 8)), .inl (0, 8, .inl (fil 2 8)), .inl (0, 8, .inl (fil 2 8)), .inl (0, 8, .inl (fil 2 8)), .inl (0, 8, .inl (fil 2 8)), .inl (0, 8, .inl (fil 2 8)), .inl (0, 8, .inl (fil 2 8)), .inl (0, 8, .inl (fil 2 8)), .inl (0, 8, .inl (fil 2 8)), .inl (0, 8, .inl (fil 2 8)), .inl (0, 8, .inl (fil 2 8)), .inl (0, 8, .inl (fil 2 8)), .inl (0, 8, .inl (fil 2 8)), .inl (0, 8, .inl (fil 2 8)), .inl (0, 8, .inl (fil 2 8)), .inl (0, 8, .inl (fil 2 8)), .inl (0, 8, .inl (fil 2 8)), .inl (0, 8, .inl (fil 2 8)), .inl (0, 8, .inl (fil 2 8)), .inl (0, 8, .inl (fil 2 8)), .inl (0, 12, .inl (fun _ => 0)), .inl (0, 12, .inl (fun _ => 0)), .inr (7, [.ref 87, .ref 88, .int 0]), .inl (0, 20, .inl (fun _ => 0)), .inl (0, 20, .inl (fun _ => 0)), .inr (7, [.ref 90, .ref 91, .int 0]), .inl (0, 20, .inl (fun _ => 0)), .inl (0, 20, .inl (fun _ => 0)), .inl (0, 20, .inl (fun _ => 0)), .inr (2, [.ref 94, .long 0, .ref 95, .ref 116]), .inl (0, 8, .inl (fil 64 8)), .inl (3, 20, .inr (.inr (.inr (.inr (fun i => if i < 20 then some (96 + i) else none))))), .inl (0, 5, .inl (fun _ => 0)), .inl (0, 5, .inl (fun _ => 0)), .inl (0, 5, .inl (fun _ => 0)), .inl (0, 5, .inl (fun _ => 0)), .inl (0, 5, .inl (fun _ => 0)), .inl (0, 5, .inl (fun _ => 0)), .inl (0, 5, .inl (fun _ => 0)), .inl (0, 5, .inl (fun _ => 0)), .inl (0, 5, .inl (fun _ => 0)), .inl (0, 5, .inl (fun _ => 0)), .inl (0, 5, .inl (fun _ => 0)), .inl (0, 5, .inl (fun _ => 0)), .inl (0, 5, .inl (fun _ => 0)), .inl (0, 5, .inl (fun _ => 0)), .inl (0, 5, .inl (fun _ => 0)), .inl (0, 5, .inl (fun _ => 0)), .inl (0, 5, .inl (fun _ => 0)), .inl (0, 5, .inl (fun _ => 0)), .inl (0, 5, .inl (fun _ => 0)), .inl (0, 5, .inl (fun _ => 0)), .inl (0, 20, .inl (fun _ => 0)), .inr (6, [.ref 118, .int 0, .int 0, .int 0, .int 0]), .inl (0, 160, .inl (fun _ => 0)), .inr (4, [.ref 120, .ref 121, .ref 122, .ref 123, .ref 124, .ref 125, .int 0]), .inl (0, 8, .inl (fun _ => 0)), .inl (0, 8, .inl (fun _ => 0)), .inl (0, 8, .inl (fun _ => 0)), .inl (2, 8, .inl (fun _ => 0)), .inl (0, 8, .inl (fun _ => 0)), .inl (0, 8, .inl (fun _ => 0)), .inr (4, [.ref 127, .ref 128, .ref 129, .ref 130, .ref 131, .ref 132, .int 0]), .inl (0, 8, .inl (fun _ => 0)), .inl (0, 8, .inl (fun _ => 0)), .inl (0, 8, .inl (fun _ => 0)), .inl (2, 8, .inl (fun _ => 0)), .inl (0, 8, .inl (fun _ => 0)), .inl (0, 8, .inl (fun _ => 0)), .inr (4, [.ref 134, .ref 135, .ref 136, .ref 137, .ref 138, .ref 139, .int 0]), .inl (0, 8, .inl (fun _ => 0)), .inl (0, 8, .inl (fun _ => 0)), .inl (0, 8, .inl (fun _ => 0)), .inl (2, 8, .inl (fun _ => 0)), .inl (0, 8, .inl (fun _ => 0)), .inl (0, 8, .inl (fun _ => 0))]
set_option maxRecDepth 100000 in
set_option maxHeartbeats 40000000 in
theorem sp_X8_init_0 {G : vG} {l : Launch} : Sp G l yX8_init cX8_init 1 none 3 139 2003 [.ref 0] KP_X8_init_0 (QV (fun w2 => w2 = KQ_X8_init_0)) := by
  refine Sp_of_R [(some (.ref 0))] [] rfl (by simp) rfl (Nat.le_of_ble_eq_true rfl) ?_
  refine R_aload_n (pc := 0) dX8_init_0 rfl rfl ?_
  refine R_objInit (pc := 1) wo_X8 dX8_init_1 (by decide) (by decide) ?_
  refine R_aload_n (pc := 4) dX8_init_4 rfl rfl ?_
  refine C_new (pc := 5) (ci := 0) (C := RX0) (T := TX0) (N := 13) (ty := tyX0) (fs := [.null, .null, .null, .null, .null, .null, .null, .null, .null, .null, .int 0, .int 0, .int 0]) 1 rfl rfl inX0 tyX0_ok wcl_26 wins_X0 wini_X0 (fun j hj => by rcases (show j = 0 ∨ j = 1 ∨ j = 2 ∨ j = 3 ∨ j = 4 ∨ j = 5 ∨ j = 6 ∨ j = 7 ∨ j = 8 ∨ j = 9 ∨ j = 10 ∨ j = 11 ∨ j = 12 by omega) with rfl | rfl | rfl | rfl | rfl | rfl | rfl | rfl | rfl | rfl | rfl | rfl | rfl <;> rfl) rfl (by decide) (by decide) (by decide) dX8_init_5 ?_
  refine R_dup (pc := 8) dX8_init_8 rfl ?_
  refine R_weq KP_X0_init_1 rfl ?_
  refine k_X8_9 (pc := 9) sp_X0_init_1 rfl (by decide) (by decide) (by decide) (by decide) dX8_init_9 (fun w2 h => ?_)
  subst h
  refine p_X8_10 (pc := 12) rfl rfl dX8_init_12 rfl (by decide) rfl rfl rfl ?_
  refine R_aload_n (pc := 15) dX8_init_15 rfl rfl ?_
  refine C_new (pc := 16) (ci := 3) (C := RX3) (T := TX3) (N := 5) (ty := tyX3) (fs := [.null, .null, .null, .null, .int 0]) 12 rfl rfl inX3 tyX3_ok wcl_98 wins_X3 wini_X3 (fun j hj => by rcases (show j = 0 ∨ j = 1 ∨ j = 2 ∨ j = 3 ∨ j = 4 by omega) with rfl | rfl | rfl | rfl | rfl <;> rfl) rfl (by decide) (by decide) (by decide) dX8_init_16 ?_
  refine R_dup (pc := 19) dX8_init_19 rfl ?_
  refine R_aload_n (pc := 20) dX8_init_20 rfl rfl ?_
  refine g_X8_10 (pc := 21) rfl dX8_init_21 (rfl) rfl ?_
  refine R_weq KP_X3_init_12 rfl ?_
  refine k_X8_18 (pc := 24) sp_X3_init_12 rfl (by decide) (by decide) (by decide) (by decide) dX8_init_24 (fun w2 h => ?_)
  subst h
  refine p_X8_21 (pc := 27) rfl rfl dX8_init_27 rfl (by decide) rfl rfl rfl ?_
  refine R_aload_n (pc := 30) dX8_init_30 rfl rfl ?_
  refine C_new (pc := 31) (ci := 5) (C := RX5) (T := TX5) (N := 5) (ty := tyX5) (fs := [.null, .null, .int 0, .int 0, .int 0]) 56 rfl rfl inX5 tyX5_ok wcl_125 wins_X5 wini_X5 (fun j hj => by rcases (show j = 0 ∨ j = 1 ∨ j = 2 ∨ j = 3 ∨ j = 4 by omega) with rfl | rfl | rfl | rfl | rfl <;> rfl) rfl (by decide) (by decide) (by decide) dX8_init_31 ?_
  refine R_dup (pc := 34) dX8_init_34 rfl ?_
  refine R_aload_n (pc := 35) dX8_init_35 rfl rfl ?_
  refine g_X8_10 (pc := 36) rfl dX8_init_36 (rfl) rfl ?_
  refine R_weq KP_X5_init_56 rfl ?_
  refine k_X8_27 (pc := 39) sp_X5_init_56 rfl (by decide) (by decide) (by decide) (by decide) dX8_init_39 (fun w2 h => ?_)
  subst h
  refine p_X8_28 (pc := 42) rfl rfl dX8_init_42 rfl (by decide) rfl rfl rfl ?_
  refine R_aload_n (pc := 45) dX8_init_45 rfl rfl ?_
  refine C_new (pc := 46) (ci := 1) (C := RX1) (T := TX1) (N := 13) (ty := tyX1) (fs := [.null, .null, .null, .null, .null, .null, .null, .null, .null, .int 0, .null, .null, .null]) 58 rfl rfl inX1 tyX1_ok wcl_151 wins_X1 wini_X1 (fun j hj => by rcases (show j = 0 ∨ j = 1 ∨ j = 2 ∨ j = 3 ∨ j = 4 ∨ j = 5 ∨ j = 6 ∨ j = 7 ∨ j = 8 ∨ j = 9 ∨ j = 10 ∨ j = 11 ∨ j = 12 by omega) with rfl | rfl | rfl | rfl | rfl | rfl | rfl | rfl | rfl | rfl | rfl | rfl | rfl <;> rfl) rfl (by decide) (by decide) (by decide) dX8_init_46 ?_
  refine R_dup (pc := 49) dX8_init_49 rfl ?_
  refine R_aload_n (pc := 50) dX8_init_50 rfl rfl ?_
  refine g_X8_10 (pc := 51) rfl dX8_init_51 (rfl) rfl ?_
  refine R_aload_n (pc := 54) dX8_init_54 rfl rfl ?_
  refine g_X8_21 (pc := 55) rfl dX8_init_55 (rfl) rfl ?_
  refine R_weq KP_X1_init_58 rfl ?_
  refine k_X8_34 (pc := 58) sp_X1_init_58 rfl (by decide) (by decide) (by decide) (by decide) dX8_init_58 (fun w2 h => ?_)
  subst h
  refine p_X8_37 (pc := 61) rfl rfl dX8_init_61 rfl (by decide) rfl rfl rfl ?_
  refine R_aload_n (pc := 64) dX8_init_64 rfl rfl ?_
  refine C_new (pc := 65) (ci := 2) (C := RX2) (T := TX2) (N := 4) (ty := tyX2) (fs := [.null, .long 0, .null, .null]) 93 rfl rfl inX2 tyX2_ok wcl_230 wins_X2 wini_X2 (fun j hj => by rcases (show j = 0 ∨ j = 1 ∨ j = 2 ∨ j = 3 by omega) with rfl | rfl | rfl | rfl <;> rfl) rfl (by decide) (by decide) (by decide) dX8_init_65 ?_
  refine R_dup (pc := 68) dX8_init_68 rfl ?_
  refine R_weq KP_X2_init_93 rfl ?_
  refine k_X8_43 (pc := 69) sp_X2_init_93 rfl (by decide) (by decide) (by decide) (by decide) dX8_init_69 (fun w2 h => ?_)
  subst h
  refine p_X8_44 (pc := 72) rfl rfl dX8_init_72 rfl (by decide) rfl rfl rfl ?_
  refine R_aload_n (pc := 75) dX8_init_75 rfl rfl ?_
  refine C_new (pc := 76) (ci := 6) (C := RX6) (T := TX6) (N := 5) (ty := tyX6) (fs := [.null, .int 0, .int 0, .int 0, .int 0]) 117 rfl rfl inX6 tyX6_ok wcl_254 wins_X6 wini_X6 (fun j hj => by rcases (show j = 0 ∨ j = 1 ∨ j = 2 ∨ j = 3 ∨ j = 4 by omega) with rfl | rfl | rfl | rfl | rfl <;> rfl) rfl (by decide) (by decide) (by decide) dX8_init_76 ?_
  refine R_dup (pc := 79) dX8_init_79 rfl ?_
  refine R_weq KP_X6_init_117 rfl ?_
  refine k_X8_50 (pc := 80) sp_X6_init_117 rfl (by decide) (by decide) (by decide) (by decide) dX8_init_80 (fun w2 h => ?_)
  subst h
  refine p_X8_51 (pc := 83) rfl rfl dX8_init_83 rfl (by decide) rfl rfl rfl ?_
  refine R_aload_n (pc := 86) dX8_init_86 rfl rfl ?_
  refine C_new (pc := 87) (ci := 4) (C := RX4) (T := TX4) (N := 7) (ty := tyX4) (fs := [.null, .null, .null, .null, .null, .null, .int 0]) 119 rfl rfl inX4 tyX4_ok wcl_278 wins_X4 wini_X4 (fun j hj => by rcases (show j = 0 ∨ j = 1 ∨ j = 2 ∨ j = 3 ∨ j = 4 ∨ j = 5 ∨ j = 6 by omega) with rfl | rfl | rfl | rfl | rfl | rfl | rfl <;> rfl) rfl (by decide) (by decide) (by decide) dX8_init_87 ?_
  refine R_dup (pc := 90) dX8_init_90 rfl ?_
  refine R_weq KP_X4_init_119 rfl ?_
  refine k_X8_57 (pc := 91) sp_X4_init_119 rfl (by decide) (by decide) (by decide) (by decide) dX8_init_91 (fun w2 h => ?_)
  subst h
  refine p_X8_58 (pc := 94) rfl rfl dX8_init_94 rfl (by decide) rfl rfl rfl ?_
  refine R_aload_n (pc := 97) dX8_init_97 rfl rfl ?_
  refine C_new (pc := 98) (ci := 4) (C := RX4) (T := TX4) (N := 7) (ty := tyX4) (fs := [.null, .null, .null, .null, .null, .null, .int 0]) 126 rfl rfl inX4 tyX4_ok wcl_278 wins_X4 wini_X4 (fun j hj => by rcases (show j = 0 ∨ j = 1 ∨ j = 2 ∨ j = 3 ∨ j = 4 ∨ j = 5 ∨ j = 6 by omega) with rfl | rfl | rfl | rfl | rfl | rfl | rfl <;> rfl) rfl (by decide) (by decide) (by decide) dX8_init_98 ?_
  refine R_dup (pc := 101) dX8_init_101 rfl ?_
  refine R_weq KP_X4_init_126 rfl ?_
  refine k_X8_57 (pc := 102) sp_X4_init_126 rfl (by decide) (by decide) (by decide) (by decide) dX8_init_102 (fun w2 h => ?_)
  subst h
  refine p_X8_62 (pc := 105) rfl dX8_init_105 rfl (by decide) rfl rfl rfl ?_
  refine R_aload_n (pc := 108) dX8_init_108 rfl rfl ?_
  refine C_new (pc := 109) (ci := 4) (C := RX4) (T := TX4) (N := 7) (ty := tyX4) (fs := [.null, .null, .null, .null, .null, .null, .int 0]) 133 rfl rfl inX4 tyX4_ok wcl_278 wins_X4 wini_X4 (fun j hj => by rcases (show j = 0 ∨ j = 1 ∨ j = 2 ∨ j = 3 ∨ j = 4 ∨ j = 5 ∨ j = 6 by omega) with rfl | rfl | rfl | rfl | rfl | rfl | rfl <;> rfl) rfl (by decide) (by decide) (by decide) dX8_init_109 ?_
  refine R_dup (pc := 112) dX8_init_112 rfl ?_
  refine R_weq KP_X4_init_133 rfl ?_
  refine k_X8_57 (pc := 113) sp_X4_init_133 rfl (by decide) (by decide) (by decide) (by decide) dX8_init_113 (fun w2 h => ?_)
  subst h
  refine p_X8_65 (pc := 116) rfl dX8_init_116 rfl (by decide) rfl rfl rfl ?_
  refine R_aload_n (pc := 119) dX8_init_119 rfl rfl ?_
  refine R_bipush (pc := 120) (v := 100) dX8_init_120 (by decide) ?_
  refine p_X8_68 (pc := 122) rfl dX8_init_122 rfl (by decide) rfl rfl rfl ?_
  exact R_vret (pc := 125) dX8_init_125 rfl (by decide) (by decide) ⟨rfl, rfl⟩
def KP_X9_init_140 : VW := [.inr (8, [.ref 1, .ref 12, .ref 56, .ref 58, .ref 93, .ref 117, .ref 119, .ref 126, .ref 133, .int 100]), .inr (0, [.ref 2, .ref 3, .ref 4, .ref 5, .ref 6, .ref 7, .ref 8, .ref 9, .ref 10, .ref 11, .int 0, .int 0, .int 999]), .inl (0, 20, .inl (fun _ => 0)), .inl (0, 20, .inl (fun _ => 0)), .inl (0, 20, .inl (fun _ => 0)), .inl (0, 20, .inl (fun _ => 0)), .inl (1, 20, .inr (.inl (fun _ => 0))), .inl (0, 20, .inl (fun _ => 0)), .inl (0, 20, .inl (fun _ => 0)), .inl (0, 20, .inl (fun _ => 0)), .inl (1, 20, .inr (.inl (fun _ => 0))), .inl (0, 20, .inl (fun _ => 0)), .inr (3, [.ref 1, .ref 13, .ref 34, .ref 55, .int 2]), .inl (3, 20, .inr (.inr (.inr (.inr (fun i => if i < 20 then some (14 + i) else none))))), .inl (0, 20, .inl (fun _ => 0)), .inl (0, 20, .inl (fun _ => 0)), .inl (0, 20, .inl (fun _ => 0)), .inl (0, 20, .inl (fun _ => 0)), .inl (0, 20, .inl (fun _ => 0)), .inl (0, 20, .inl (fun _ => 0)), .inl (0, 20, .inl (fun _ => 0)), .inl (0, 20, .inl (fun _ => 0)), .inl (0, 20, .inl (fun _ => 0)), .inl (0, 20, .inl (fun _ => 0)), .inl (0, 20, .inl (fun _ => 0)), .inl (0, 20, .inl (fun _ => 0)), .inl (0, 20, .inl (fun _ => 0)), .inl (0, 20, .inl (fun _ => 0)), .inl (0, 20, .inl (fun _ => 0)), .inl (0, 20, .inl (fun _ => 0)), .inl (0, 20, .inl (fun _ => 0)), .inl (0, 20, .inl (fun _ => 0)), .inl (0, 20, .inl (fun _ => 0)), .inl (0, 20, .inl (fun _ => 0)), .inl (3, 20, .inr (.inr (.inr (.inr (fun i => if i < 20 then some (35 + i) else none))))), .inl (0, 20, .inl (fun _ => 0)), .inl (0, 20, .inl (fun _ => 0)), .inl (0, 20, .inl (fun _ => 0)), .inl (0, 20, .inl (fun _ => 0)), .inl (0, 20, .inl (fun _ => 0)), .inl (0, 20, .inl (fun _ => 0)), .inl (0, 20, .inl (fun _ => 0)), .inl (0, 20, .inl (fun _ => 0)), .inl (0, 20, .inl (fun _ => 0)), .inl (0, 20, .inl (fun _ => 0)), .inl (0, 20, .inl (fun _ => 0)), .inl (0, 20, .inl (fun _ => 0)), .inl (0, 20, .inl (fun _ => 0)), .inl (0, 20, .inl (fun _ => 0)), .inl (0, 20, .inl (fun _ => 0)), .inl (0, 20, .inl (fun _ => 0)), .inl (0, 20, .inl (fun _ => 0)), .inl (0, 20, .inl (fun _ => 0)), .inl (0, 20, .inl (fun _ => 0)), .inl (0, 20, .inl (fun _ => 0)), .inl (0, 9, .inl (fun _ => 0)), .inr (5, [.ref 1, .ref 57, .int 0, .int 0, .int 0]), .inl (2, 100, .inl (fun _ => 0)), .inr (1, [.ref 1, .ref 12, .ref 59, .ref 60, .ref 61, .ref 62, .ref 63, .ref 84, .ref 85, .int 0, .ref 86, .ref 89, .ref 92]), .inl (0, 8, .inl (fun _ => 0)), .inl (0, 8, .inl (fil 20000 8)), .inl (0, 5, .inl (fun _ => 0)), .inl (0, 5, .inl (fil 20000 5)), .inl (3, 20, .inr (.inr (.inr (.inr (fun i => if i < 20 then some (64 + i) else none))))), .inl (0, 8, .inl (fil 2 8)), .inl (0, 8, .inl (fil 2 8)), .inl (0, 8, .inl (fil 2 8)), .inl (0, 8, .inl (fil 2 8)), .inl (0, 8, .inl (fil 2 8)), .inl (0, 8, .inl (fil 2 8)), .inl (0, 8, .inl (fil 2 8)), .inl (0, 8, .inl (fil 2 8)), .inl (0, 8, .inl (fil 2 8)), .inl (0, 8, .inl (fil 2 8)), .inl (0, 8, .inl (fil 2 8)), .inl (0, 8, .inl (fil 2 8)), .inl (0, 8, .inl (fil 2 8)), .inl (0, 8, .inl (fil 2 8)), .inl (0, 8, .inl (fil 2 8)), .inl (0, 8, .inl (fil 2 8)), .inl (0, 8, .inl (fil 2 8)), .inl (0, 8, .inl (fil 2 8)), .inl (0, 8, .inl (fil 2 8)), .inl (0, 8, .inl (fil 2 8)), .inl (0, 12, .inl (fun _ => 0)), .inl (0, 12, .inl (fun _ => 0)), .inr (7, [.ref 87, .ref 88, .int 0]), .inl (0, 20, .inl (fun _ => 0)), .inl (0, 20, .inl (fun _ => 0)), .inr (7, [.ref 90, .ref 91, .int 0]), .inl (0, 20, .inl (fun _ => 0)), .inl (0, 20, .inl (fun _ => 0)), .inl (0, 20, .inl (fun _ => 0)), .inr (2, [.ref 94, .long 0, .ref 95, .ref 116]), .inl (0, 8, .inl (fil 64 8)), .inl (3, 20, .inr (.inr (.inr (.inr (fun i => if i < 20 then some (96 + i) else none))))), .inl (0, 5, .inl (fun _ => 0)), .inl (0, 5, .inl (fun _ => 0)), .inl (0, 5, .inl (fun _ => 0)), .inl (0, 5, .inl (fun _ => 0)), .inl (0, 5, .inl (fun _ => 0)), .inl (0, 5, .inl (fun _ => 0)), .inl (0, 5, .inl (fun _ => 0)), .inl (0, 5, .inl (fun _ => 0)), .inl (0, 5, .inl (fun _ => 0)), .inl (0, 5, .inl (fun _ => 0)), .inl (0, 5, .inl (fun _ => 0)), .inl (0, 5, .inl (fun _ => 0)), .inl (0, 5, .inl (fun _ => 0)), .inl (0, 5, .inl (fun _ => 0)), .inl (0, 5, .inl (fun _ => 0)), .inl (0, 5, .inl (fun _ => 0)), .inl (0, 5, .inl (fun _ => 0)), .inl (0, 5, .inl (fun _ => 0)), .inl (0, 5, .inl (fun _ => 0)), .inl (0, 5, .inl (fun _ => 0)), .inl (0, 20, .inl (fun _ => 0)), .inr (6, [.ref 118, .int 0, .int 0, .int 0, .int 0]), .inl (0, 160, .inl (fun _ => 0)), .inr (4, [.ref 120, .ref 121, .ref 122, .ref 123, .ref 124, .ref 125, .int 0]), .inl (0, 8, .inl (fun _ => 0)), .inl (0, 8, .inl (fun _ => 0)), .inl (0, 8, .inl (fun _ => 0)), .inl (2, 8, .inl (fun _ => 0)), .inl (0, 8, .inl (fun _ => 0)), .inl (0, 8, .inl (fun _ => 0)), .inr (4, [.ref 127, .ref 128, .ref 129, .ref 130, .ref 131, .ref 132, .int 0]), .inl (0, 8, .inl (fun _ => 0)), .inl (0, 8, .inl (fun _ => 0)), .inl (0, 8, .inl (fun _ => 0)), .inl (2, 8, .inl (fun _ => 0)), .inl (0, 8, .inl (fun _ => 0)), .inl (0, 8, .inl (fun _ => 0)), .inr (4, [.ref 134, .ref 135, .ref 136, .ref 137, .ref 138, .ref 139, .int 0]), .inl (0, 8, .inl (fun _ => 0)), .inl (0, 8, .inl (fun _ => 0)), .inl (0, 8, .inl (fun _ => 0)), .inl (2, 8, .inl (fun _ => 0)), .inl (0, 8, .inl (fun _ => 0)), .inl (0, 8, .inl (fun _ => 0)), .inr (9, [.int 0, .null, .null, .null, .null, .null, .null, .null, .null, .null, .null, .int 0, .int 0, .int 0, .int 0, .null, .null, .null, .null, .null, .null, .null, .null, .null, .null, .int 0, .null, .null, .null, .null, .null, .null, .int 0, .null, .long 0, .null, .null, .int 0, .null, .int 0, .int 0, .long 0, .int 0, .int 0, .int 0, .int 0, .null, .int 0, .null])]
def KQ_X9_init_140 : VW := [.inr (8, [.ref 1, .ref 12, .ref 56, .ref 58, .ref 93, .ref 117, .ref 119, .ref 126, .ref 133, .int 100]), .inr (0, [.ref 2, .ref 3, .ref 4, .ref 5, .ref 6, .ref 7, .ref 8, .ref 9, .ref 10, .ref 11, .int 0, .int 0, .int 999]), .inl (0, 20, .inl (fun _ => 0)), .inl (0, 20, .inl (fun _ => 0)), .inl (0, 20, .inl (fun _ => 0)), .inl (0, 20, .inl (fun _ => 0)), .inl (1, 20, .inr (.inl (fun _ => 0))), .inl (0, 20, .inl (fun _ => 0)), .inl (0, 20, .inl (fun _ => 0)), .inl (0, 20, .inl (fun _ => 0)), .inl (1, 20, .inr (.inl (fun _ => 0))), .inl (0, 20, .inl (fun _ => 0)), .inr (3, [.ref 1, .ref 13, .ref 34, .ref 55, .int 2]), .inl (3, 20, .inr (.inr (.inr (.inr (fun i => if i < 20 then some (14 + i) else none))))), .inl (0, 20, .inl (fun _ => 0)), .inl (0, 20, .inl (fun _ => 0)), .inl (0, 20, .inl (fun _ => 0)), .inl (0, 20, .inl (fun _ => 0)), .inl (0, 20, .inl (fun _ => 0)), .inl (0, 20, .inl (fun _ => 0)), .inl (0, 20, .inl (fun _ => 0)), .inl (0, 20, .inl (fun _ => 0)), .inl (0, 20, .inl (fun _ => 0)), .inl (0, 20, .inl (fun _ => 0)), .inl (0, 20, .inl (fun _ => 0)), .inl (0, 20, .inl (fun _ => 0)), .inl (0, 20, .inl (fun _ => 0)), .inl (0, 20, .inl (fun _ => 0)), .inl (0, 20, .inl (fun _ => 0)), .inl (0, 20, .inl (fun _ => 0)), .inl (0, 20, .inl (fun _ => 0)), .inl (0, 20, .inl (fun _ => 0)), .inl (0, 20, .inl (fun _ => 0)), .inl (0, 20, .inl (fun _ => 0)), .inl (3, 20, .inr (.inr (.inr (.inr (fun i => if i < 20 then some (35 + i) else none))))), .inl (0, 20, .inl (fun _ => 0)), .inl (0, 20, .inl (fun _ => 0)), .inl (0, 20, .inl (fun _ => 0)), .inl (0, 20, .inl (fun _ => 0)), .inl (0, 20, .inl (fun _ => 0)), .inl (0, 20, .inl (fun _ => 0)), .inl (0, 20, .inl (fun _ => 0)), .inl (0, 20, .inl (fun _ => 0)), .inl (0, 20, .inl (fun _ => 0)), .inl (0, 20, .inl (fun _ => 0)), .inl (0, 20, .inl (fun _ => 0)), .inl (0, 20, .inl (fun _ => 0)), .inl (0, 20, .inl (fun _ => 0)), .inl (0, 20, .inl (fun _ => 0)), .inl (0, 20, .inl (fun _ => 0)), .inl (0, 20, .inl (fun _ => 0)), .inl (0, 20, .inl (fun _ => 0)), .inl (0, 20, .inl (fun _ => 0)), .inl (0, 20, .inl (fun _ => 0)), .inl (0, 20, .inl (fun _ => 0)), .inl (0, 9, .inl (fun _ => 0)), .inr (5, [.ref 1, .ref 57, .int 0, .int 0, .int 0]), .inl (2, 100, .inl (fun _ => 0)), .inr (1, [.ref 1, .ref 12, .ref 59, .ref 60, .ref 61, .ref 62, .ref 63, .ref 84, .ref 85, .int 0, .ref 86, .ref 89, .ref 92]), .inl (0, 8, .inl (fun _ => 0)), .inl (0, 8, .inl (fil 20000 8)), .inl (0, 5, .inl (fun _ => 0)), .inl (0, 5, .inl (fil 20000 5)), .inl (3, 20, .inr (.inr (.inr (.inr (fun i => if i < 20 then some (64 + i) else none))))), .inl (0, 8, .inl (fil 2 8)), .inl (0, 8, .inl (fil 2 8)), .inl (0, 8, .inl (fil 2 8)), .inl (0, 8, .inl (fil 2 8)), .inl (0, 8, .inl (fil 2 8)), .inl (0, 8, .inl (fil 2 8)), .inl (0, 8, .inl (fil 2 8)), .inl (0, 8, .inl (fil 2 8)), .inl (0, 8, .inl (fil 2 8)), .inl (0, 8, .inl (fil 2 8)), .inl (0, 8, .inl (fil 2 8)), .inl (0, 8, .inl (fil 2 8)), .inl (0, 8, .inl (fil 2 8)), .inl (0, 8, .inl (fil 2 8)), .inl (0, 8, .inl (fil 2 8)), .inl (0, 8, .inl (fil 2 8)), .inl (0, 8, .inl (fil 2 8)), .inl (0, 8, .inl (fil 2 8)), .inl (0, 8, .inl (fil 2 8)), .inl (0, 8, .inl (fil 2 8)), .inl (0, 12, .inl (fun _ => 0)), .inl (0, 12, .inl (fun _ => 0)), .inr (7, [.ref 87, .ref 88, .int 0]), .inl (0, 20, .inl (fun _ => 0)), .inl (0, 20, .inl (fun _ => 0)), .inr (7, [.ref 90, .ref 91, .int 0]), .inl (0, 20, .inl (fun _ => 0)), .inl (0, 20, .inl (fun _ => 0)), .inl (0, 20, .inl (fun _ => 0)), .inr (2, [.ref 94, .long 0, .ref 95, .ref 116]), .inl (0, 8, .inl (fil 64 8)), .inl (3, 20, .inr (.inr (.inr (.inr (fun i => if i < 20 then some (96 + i) else none))))), .inl (0, 5, .inl (fun _ => 0)), .inl (0, 5, .inl (fun _ => 0)), .inl (0, 5, .inl (fun _ => 0)), .inl (0, 5, .inl (fun _ => 0)), .inl (0, 5, .inl (fun _ => 0)), .inl (0, 5, .inl (fun _ => 0)), .inl (0, 5, .inl (fun _ => 0)), .inl (0, 5, .inl (fun _ => 0)), .inl (0, 5, .inl (fun _ => 0)), .inl (0, 5, .inl (fun _ => 0)), .inl (0, 5, .inl (fun _ => 0)), .inl (0, 5, .inl (fun _ => 0)), .inl (0, 5, .inl (fun _ => 0)), .inl (0, 5, .inl (fun _ => 0)), .inl (0, 5, .inl (fun _ => 0)), .inl (0, 5, .inl (fun _ => 0)), .inl (0, 5, .inl (fun _ => 0)), .inl (0, 5, .inl (fun _ => 0)), .inl (0, 5, .inl (fun _ => 0)), .inl (0, 5, .inl (fun _ => 0)), .inl (0, 20, .inl (fun _ => 0)), .inr (6, [.ref 118, .int 0, .int 0, .int 0, .int 0]), .inl (0, 160, .inl (fun _ => 0)), .inr (4, [.ref 120, .ref 121, .ref 122, .ref 123, .ref 124, .ref 125, .int 0]), .inl (0, 8, .inl (fun _ => 0)), .inl (0, 8, .inl (fun _ => 0)), .inl (0, 8, .inl (fun _ => 0)), .inl (2, 8, .inl (fun _ => 0)), .inl (0, 8, .inl (fun _ => 0)), .inl (0, 8, .inl (fun _ => 0)), .inr (4, [.ref 127, .ref 128, .ref 129, .ref 130, .ref 131, .ref 132, .int 0]), .inl (0, 8, .inl (fun _ => 0)), .inl (0, 8, .inl (fun _ => 0)), .inl (0, 8, .inl (fun _ => 0)), .inl (2, 8, .inl (fun _ => 0)), .inl (0, 8, .inl (fun _ => 0)), .inl (0, 8, .inl (fun _ => 0)), .inr (4, [.ref 134, .ref 135, .ref 136, .ref 137, .ref 138, .ref 139, .int 0]), .inl (0, 8, .inl (fun _ => 0)), .inl (0, 8, .inl (fun _ => 0)), .inl (0, 8, .inl (fun _ => 0)), .inl (2, 8, .inl (fun _ => 0)), .inl (0, 8, .inl (fun _ => 0)), .inl (0, 8, .inl (fun _ => 0)), .inr (9, [.int 0, .ref 141, .ref 142, .ref 143, .ref 144, .ref 145, .ref 146, .ref 147, .ref 148, .ref 149, .ref 150, .int 0, .int 2, .int 999, .int 100, .ref 151, .ref 152, .ref 153, .ref 154, .ref 155, .ref 156, .ref 157, .ref 158, .ref 159, .ref 160, .int 0, .ref 161, .ref 162, .ref 163, .ref 164, .ref 165, .ref 166, .int 0, .ref 167, .long 0, .ref 168, .ref 169, .int 0, .ref 170, .int 0, .int 0, .long 0, .int 0, .int 0, .int 0, .int 0, .ref 171, .int 0, .ref 172]), .inl (0, 20, .inl (fun _ => 0)), .inl (0, 20, .inl (fun _ => 0)), .inl (0, 20, .inl (fun _ => 0)), .inl (0, 20, .inl (fun _ => 0)), .inl (1, 20, .inr (.inl (fun _ => 0))), .inl (0, 20, .inl (fun _ => 0)), .inl (0, 20, .inl (fun _ => 0)), .inl (0, 20, .inl (fun _ => 0)), .inl (0, 20, .inl (fun _ => 0)), .inl (0, 160, .inl (fun _ => 0)), .inl (0, 400, .inl (fun _ => 0)), .inl (0, 20, .inl (fun _ => 0)), .inl (0, 20, .inl (fun _ => 0)), .inl (0, 9, .inl (fun _ => 0)), .inl (0, 9, .inl (fun _ => 0)), .inl (0, 8, .inl (fun _ => 0)), .inl (0, 8, .inl (fil 20000 8)), .inl (0, 160, .inl (fun _ => 0)), .inl (0, 5, .inl (fun _ => 0)), .inl (0, 5, .inl (fil 20000 5)), .inl (0, 12, .inl (fun _ => 0)), .inl (0, 12, .inl (fun _ => 0)), .inl (0, 20, .inl (fun _ => 0)), .inl (0, 20, .inl (fun _ => 0)), .inl (0, 20, .inl (fun _ => 0)), .inl (0, 20, .inl (fun _ => 0)), .inl (0, 8, .inl (fil 64 8)), .inl (0, 20, .inl (fun _ => 0)), .inl (0, 100, .inl (fun _ => 0)), .inl (0, 160, .inl (fun _ => 0)), .inl (0, 48, .inl (fun _ => 0)), .inl (0, 48, .inl (fun _ => 0))]
def KF5 (f g : Nat → Int32) : VW := [.inr (8, [.ref 1, .ref 12, .ref 56, .ref 58, .ref 93, .ref 117, .ref 119, .ref 126, .ref 133, .int 100]), .inr (0, [.ref 2, .ref 3, .ref 4, .ref 5, .ref 6, .ref 7, .ref 8, .ref 9, .ref 10, .ref 11, .int 0, .int 0, .int 999]), .inl (0, 20, .inl (fun _ => 0)), .inl (0, 20, .inl (fun _ => 0)), .inl (0, 20, .inl (fun _ => 0)), .inl (0, 20, .inl (fun _ => 0)), .inl (1, 20, .inr (.inl (fun _ => 0))), .inl (0, 20, .inl (fun _ => 0)), .inl (0, 20, .inl (fun _ => 0)), .inl (0, 20, .inl (fun _ => 0)), .inl (1, 20, .inr (.inl (fun _ => 0))), .inl (0, 20, .inl (fun _ => 0)), .inr (3, [.ref 1, .ref 13, .ref 34, .ref 55, .int 2]), .inl (3, 20, .inr (.inr (.inr (.inr (fun i => if i < 20 then some (14 + i) else none))))), .inl (0, 20, .inl (fun _ => 0)), .inl (0, 20, .inl (fun _ => 0)), .inl (0, 20, .inl (fun _ => 0)), .inl (0, 20, .inl (fun _ => 0)), .inl (0, 20, .inl (fun _ => 0)), .inl (0, 20, .inl (fun _ => 0)), .inl (0, 20, .inl (fun _ => 0)), .inl (0, 20, .inl (fun _ => 0)), .inl (0, 20, .inl (fun _ => 0)), .inl (0, 20, .inl (fun _ => 0)), .inl (0, 20, .inl (fun _ => 0)), .inl (0, 20, .inl (fun _ => 0)), .inl (0, 20, .inl (fun _ => 0)), .inl (0, 20, .inl (fun _ => 0)), .inl (0, 20, .inl (fun _ => 0)), .inl (0, 20, .inl (fun _ => 0)), .inl (0, 20, .inl (fun _ => 0)), .inl (0, 20, .inl (fun _ => 0)), .inl (0, 20, .inl (fun _ => 0)), .inl (0, 20, .inl (fun _ => 0)), .inl (3, 20, .inr (.inr (.inr (.inr (fun i => if i < 20 then some (35 + i) else none))))), .inl (0, 20, .inl (fun _ => 0)), .inl (0, 20, .inl (fun _ => 0)), .inl (0, 20, .inl (fun _ => 0)), .inl (0, 20, .inl (fun _ => 0)), .inl (0, 20, .inl (fun _ => 0)), .inl (0, 20, .inl (fun _ => 0)), .inl (0, 20, .inl (fun _ => 0)), .inl (0, 20, .inl (fun _ => 0)), .inl (0, 20, .inl (fun _ => 0)), .inl (0, 20, .inl (fun _ => 0)), .inl (0, 20, .inl (fun _ => 0)), .inl (0, 20, .inl (fun _ => 0)), .inl (0, 20, .inl (fun _ => 0)), .inl (0, 20, .inl (fun _ => 0)), .inl (0, 20, .inl (fun _ => 0)), .inl (0, 20, .inl (fun _ => 0)), .inl (0, 20, .inl (fun _ => 0)), .inl (0, 20, .inl (fun _ => 0)), .inl (0, 20, .inl (fun _ => 0)), .inl (0, 20, .inl (fun _ => 0)), .inl (0, 9, .inl (fun _ => 0)), .inr (5, [.ref 1, .ref 57, .int 0, .int 0, .int 0]), .inl (2, 100, .inl (fun _ => 0)), .inr (1, [.ref 1, .ref 12, .ref 59, .ref 60, .ref 61, .ref 62, .ref 63, .ref 84, .ref 85, .int 0, .ref 86, .ref 89, .ref 92]), .inl (0, 8, .inl (fun _ => 0)), .inl (0, 8, .inl (fil 20000 8)), .inl (0, 5, .inl (fun _ => 0)), .inl (0, 5, .inl (fil 20000 5)), .inl (3, 20, .inr (.inr (.inr (.inr (fun i => if i < 20 then some (64 + i) else none))))), .inl (0, 8, .inl (fil 2 8)), .inl (0, 8, .inl (fil 2 8)), .inl (0, 8, .inl (fil 2 8)), .inl (0, 8, .inl (fil 2 8)), .inl (0, 8, .inl (fil 2 8)), .inl (0, 8, .inl (fil 2 8)), .inl (0, 8, .inl (fil 2 8)), .inl (0, 8, .inl (fil 2 8)), .inl (0, 8, .inl (fil 2 8)), .inl (0, 8, .inl (fil 2 8)), .inl (0, 8, .inl (fil 2 8)), .inl (0, 8, .inl (fil 2 8)), .inl (0, 8, .inl (fil 2 8)), .inl (0, 8, .inl (fil 2 8)), .inl (0, 8, .inl (fil 2 8)), .inl (0, 8, .inl (fil 2 8)), .inl (0, 8, .inl (fil 2 8)), .inl (0, 8, .inl (fil 2 8)), .inl (0, 8, .inl (fil 2 8)), .inl (0, 8, .inl (fil 2 8)), .inl (0, 12, .inl (fun _ => 0)), .inl (0, 12, .inl (fun _ => 0)), .inr (7, [.ref 87, .ref 88, .int 0]), .inl (0, 20, .inl (fun _ => 0)), .inl (0, 20, .inl (fun _ => 0)), .inr (7, [.ref 90, .ref 91, .int 0]), .inl (0, 20, .inl (fun _ => 0)), .inl (0, 20, .inl (fun _ => 0)), .inl (0, 20, .inl (fun _ => 0)), .inr (2, [.ref 94, .long 0, .ref 95, .ref 116]), .inl (0, 8, .inl (fil 64 8)), .inl (3, 20, .inr (.inr (.inr (.inr (fun i => if i < 20 then some (96 + i) else none))))), .inl (0, 5, .inl (fun _ => 0)), .inl (0, 5, .inl (fun _ => 0)), .inl (0, 5, .inl (fun _ => 0)), .inl (0, 5, .inl (fun _ => 0)), .inl (0, 5, .inl (fun _ => 0)), .inl (0, 5, .inl (fun _ => 0)), .inl (0, 5, .inl (fun _ => 0)), .inl (0, 5, .inl (fun _ => 0)), .inl (0, 5, .inl (fun _ => 0)), .inl (0, 5, .inl (fun _ => 0)), .inl (0, 5, .inl (fun _ => 0)), .inl (0, 5, .inl (fun _ => 0)), .inl (0, 5, .inl (fun _ => 0)), .inl (0, 5, .inl (fun _ => 0)), .inl (0, 5, .inl (fun _ => 0)), .inl (0, 5, .inl (fun _ => 0)), .inl (0, 5, .inl (fun _ => 0)), .inl (0, 5, .inl (fun _ => 0)), .inl (0, 5, .inl (fun _ => 0)), .inl (0, 5, .inl (fun _ => 0)), .inl (0, 20, .inl (fun _ => 0)), .inr (6, [.ref 118, .int 0, .int 0, .int 0, .int 0]), .inl (0, 160, .inl (fun _ => 0)), .inr (4, [.ref 120, .ref 121, .ref 122, .ref 123, .ref 124, .ref 125, .int 0]), .inl (0, 8, .inl (fun _ => 0)), .inl (0, 8, .inl (fun _ => 0)), .inl (0, 8, .inl (fun _ => 0)), .inl (2, 8, .inl (fun _ => 0)), .inl (0, 8, .inl (fun _ => 0)), .inl (0, 8, .inl (fun _ => 0)), .inr (4, [.ref 127, .ref 128, .ref 129, .ref 130, .ref 131, .ref 132, .int 0]), .inl (0, 8, .inl (fun _ => 0)), .inl (0, 8, .inl (fun _ => 0)), .inl (0, 8, .inl (fun _ => 0)), .inl (2, 8, .inl (fun _ => 0)), .inl (0, 8, .inl (fun _ => 0)), .inl (0, 8, .inl (fun _ => 0)), .inr (4, [.ref 134, .ref 135, .ref 136, .ref 137, .ref 138, .ref 139, .int 0]), .inl (0, 8, .inl (fun _ => 0)), .inl (0, 8, .inl (fun _ => 0)), .inl (0, 8, .inl (fun _ => 0)), .inl (2, 8, .inl (fun _ => 0)), .inl (0, 8, .inl (fun _ => 0)), .inl (0, 8, .inl (fun _ => 0)), .inr (9, [.int 0, .ref 141, .ref 142, .ref 143, .ref 144, .ref 145, .ref 146, .ref 147, .ref 148, .ref 149, .ref 150, .int 0, .int 2, .int 999, .int 100, .ref 151, .ref 152, .ref 153, .ref 154, .ref 155, .ref 156, .ref 157, .ref 158, .ref 159, .ref 160, .int 0, .ref 161, .ref 162, .ref 163, .ref 164, .ref 165, .ref 166, .int 0, .ref 167, .long 0, .ref 168, .ref 169, .int 0, .ref 170, .int 0, .int 0, .long 0, .int 0, .int 0, .int 0, .int 0, .ref 171, .int 0, .ref 172]), .inl (0, 20, .inl (fun _ => 0)), .inl (0, 20, .inl (fun _ => 0)), .inl (0, 20, .inl (fun _ => 0)), .inl (0, 20, .inl (fun _ => 0)), .inl (1, 20, .inr (.inl (fun _ => 0))), .inl (0, 20, .inl (fun _ => 0)), .inl (0, 20, .inl (fun _ => 0)), .inl (0, 20, .inl (fun _ => 0)), .inl (0, 20, .inl (fun _ => 0)), .inl (0, 160, .inl (fun _ => 0)), .inl (0, 400, .inl (fun _ => 0)), .inl (0, 20, .inl (fun _ => 0)), .inl (0, 20, .inl (fun _ => 0)), .inl (0, 9, .inl (fun _ => 0)), .inl (0, 9, .inl (fun _ => 0)), .inl (0, 8, .inl (fun _ => 0)), .inl (0, 8, .inl f), .inl (0, 160, .inl (fun _ => 0)), .inl (0, 5, .inl (fun _ => 0)), .inl (0, 5, .inl (fun _ => 0)), .inl (0, 12, .inl (fun _ => 0)), .inl (0, 12, .inl (fun _ => 0)), .inl (0, 20, .inl (fun _ => 0)), .inl (0, 20, .inl (fun _ => 0)), .inl (0, 20, .inl (fun _ => 0)), .inl (0, 20, .inl (fun _ => 0)), .inl (0, 8, .inl g), .inl (0, 20, .inl (fun _ => 0)), .inl (0, 100, .inl (fun _ => 0)), .inl (0, 160, .inl (fun _ => 0)), .inl (0, 48, .inl (fun _ => 0)), .inl (0, 48, .inl (fun _ => 0))]
def KF6 (f : Nat → Int32) : VW := [.inr (8, [.ref 1, .ref 12, .ref 56, .ref 58, .ref 93, .ref 117, .ref 119, .ref 126, .ref 133, .int 100]), .inr (0, [.ref 2, .ref 3, .ref 4, .ref 5, .ref 6, .ref 7, .ref 8, .ref 9, .ref 10, .ref 11, .int 0, .int 0, .int 999]), .inl (0, 20, .inl (fun _ => 0)), .inl (0, 20, .inl (fun _ => 0)), .inl (0, 20, .inl (fun _ => 0)), .inl (0, 20, .inl (fun _ => 0)), .inl (1, 20, .inr (.inl (fun _ => 0))), .inl (0, 20, .inl (fun _ => 0)), .inl (0, 20, .inl (fun _ => 0)), .inl (0, 20, .inl (fun _ => 0)), .inl (1, 20, .inr (.inl (fun _ => 0))), .inl (0, 20, .inl (fun _ => 0)), .inr (3, [.ref 1, .ref 13, .ref 34, .ref 55, .int 2]), .inl (3, 20, .inr (.inr (.inr (.inr (fun i => if i < 20 then some (14 + i) else none))))), .inl (0, 20, .inl (fun _ => 0)), .inl (0, 20, .inl (fun _ => 0)), .inl (0, 20, .inl (fun _ => 0)), .inl (0, 20, .inl (fun _ => 0)), .inl (0, 20, .inl (fun _ => 0)), .inl (0, 20, .inl (fun _ => 0)), .inl (0, 20, .inl (fun _ => 0)), .inl (0, 20, .inl (fun _ => 0)), .inl (0, 20, .inl (fun _ => 0)), .inl (0, 20, .inl (fun _ => 0)), .inl (0, 20, .inl (fun _ => 0)), .inl (0, 20, .inl (fun _ => 0)), .inl (0, 20, .inl (fun _ => 0)), .inl (0, 20, .inl (fun _ => 0)), .inl (0, 20, .inl (fun _ => 0)), .inl (0, 20, .inl (fun _ => 0)), .inl (0, 20, .inl (fun _ => 0)), .inl (0, 20, .inl (fun _ => 0)), .inl (0, 20, .inl (fun _ => 0)), .inl (0, 20, .inl (fun _ => 0)), .inl (3, 20, .inr (.inr (.inr (.inr (fun i => if i < 20 then some (35 + i) else none))))), .inl (0, 20, .inl (fun _ => 0)), .inl (0, 20, .inl (fun _ => 0)), .inl (0, 20, .inl (fun _ => 0)), .inl (0, 20, .inl (fun _ => 0)), .inl (0, 20, .inl (fun _ => 0)), .inl (0, 20, .inl (fun _ => 0)), .inl (0, 20, .inl (fun _ => 0)), .inl (0, 20, .inl (fun _ => 0)), .inl (0, 20, .inl (fun _ => 0)), .inl (0, 20, .inl (fun _ => 0)), .inl (0, 20, .inl (fun _ => 0)), .inl (0, 20, .inl (fun _ => 0)), .inl (0, 20, .inl (fun _ => 0)), .inl (0, 20, .inl (fun _ => 0)), .inl (0, 20, .inl (fun _ => 0)), .inl (0, 20, .inl (fun _ => 0)), .inl (0, 20, .inl (fun _ => 0)), .inl (0, 20, .inl (fun _ => 0)), .inl (0, 20, .inl (fun _ => 0)), .inl (0, 20, .inl (fun _ => 0)), .inl (0, 9, .inl (fun _ => 0)), .inr (5, [.ref 1, .ref 57, .int 0, .int 0, .int 0]), .inl (2, 100, .inl (fun _ => 0)), .inr (1, [.ref 1, .ref 12, .ref 59, .ref 60, .ref 61, .ref 62, .ref 63, .ref 84, .ref 85, .int 0, .ref 86, .ref 89, .ref 92]), .inl (0, 8, .inl (fun _ => 0)), .inl (0, 8, .inl (fil 20000 8)), .inl (0, 5, .inl (fun _ => 0)), .inl (0, 5, .inl (fil 20000 5)), .inl (3, 20, .inr (.inr (.inr (.inr (fun i => if i < 20 then some (64 + i) else none))))), .inl (0, 8, .inl (fil 2 8)), .inl (0, 8, .inl (fil 2 8)), .inl (0, 8, .inl (fil 2 8)), .inl (0, 8, .inl (fil 2 8)), .inl (0, 8, .inl (fil 2 8)), .inl (0, 8, .inl (fil 2 8)), .inl (0, 8, .inl (fil 2 8)), .inl (0, 8, .inl (fil 2 8)), .inl (0, 8, .inl (fil 2 8)), .inl (0, 8, .inl (fil 2 8)), .inl (0, 8, .inl (fil 2 8)), .inl (0, 8, .inl (fil 2 8)), .inl (0, 8, .inl (fil 2 8)), .inl (0, 8, .inl (fil 2 8)), .inl (0, 8, .inl (fil 2 8)), .inl (0, 8, .inl (fil 2 8)), .inl (0, 8, .inl (fil 2 8)), .inl (0, 8, .inl (fil 2 8)), .inl (0, 8, .inl (fil 2 8)), .inl (0, 8, .inl (fil 2 8)), .inl (0, 12, .inl (fun _ => 0)), .inl (0, 12, .inl (fun _ => 0)), .inr (7, [.ref 87, .ref 88, .int 0]), .inl (0, 20, .inl (fun _ => 0)), .inl (0, 20, .inl (fun _ => 0)), .inr (7, [.ref 90, .ref 91, .int 0]), .inl (0, 20, .inl (fun _ => 0)), .inl (0, 20, .inl (fun _ => 0)), .inl (0, 20, .inl (fun _ => 0)), .inr (2, [.ref 94, .long 0, .ref 95, .ref 116]), .inl (0, 8, .inl (fil 64 8)), .inl (3, 20, .inr (.inr (.inr (.inr (fun i => if i < 20 then some (96 + i) else none))))), .inl (0, 5, .inl (fun _ => 0)), .inl (0, 5, .inl (fun _ => 0)), .inl (0, 5, .inl (fun _ => 0)), .inl (0, 5, .inl (fun _ => 0)), .inl (0, 5, .inl (fun _ => 0)), .inl (0, 5, .inl (fun _ => 0)), .inl (0, 5, .inl (fun _ => 0)), .inl (0, 5, .inl (fun _ => 0)), .inl (0, 5, .inl (fun _ => 0)), .inl (0, 5, .inl (fun _ => 0)), .inl (0, 5, .inl (fun _ => 0)), .inl (0, 5, .inl (fun _ => 0)), .inl (0, 5, .inl (fun _ => 0)), .inl (0, 5, .inl (fun _ => 0)), .inl (0, 5, .inl (fun _ => 0)), .inl (0, 5, .inl (fun _ => 0)), .inl (0, 5, .inl (fun _ => 0)), .inl (0, 5, .inl (fun _ => 0)), .inl (0, 5, .inl (fun _ => 0)), .inl (0, 5, .inl (fun _ => 0)), .inl (0, 20, .inl (fun _ => 0)), .inr (6, [.ref 118, .int 0, .int 0, .int 0, .int 0]), .inl (0, 160, .inl (fun _ => 0)), .inr (4, [.ref 120, .ref 121, .ref 122, .ref 123, .ref 124, .ref 125, .int 0]), .inl (0, 8, .inl (fun _ => 0)), .inl (0, 8, .inl (fun _ => 0)), .inl (0, 8, .inl (fun _ => 0)), .inl (2, 8, .inl (fun _ => 0)), .inl (0, 8, .inl (fun _ => 0)), .inl (0, 8, .inl (fun _ => 0)), .inr (4, [.ref 127, .ref 128, .ref 129, .ref 130, .ref 131, .ref 132, .int 0]), .inl (0, 8, .inl (fun _ => 0)), .inl (0, 8, .inl (fun _ => 0)), .inl (0, 8, .inl (fun _ => 0)), .inl (2, 8, .inl (fun _ => 0)), .inl (0, 8, .inl (fun _ => 0)), .inl (0, 8, .inl (fun _ => 0)), .inr (4, [.ref 134, .ref 135, .ref 136, .ref 137, .ref 138, .ref 139, .int 0]), .inl (0, 8, .inl (fun _ => 0)), .inl (0, 8, .inl (fun _ => 0)), .inl (0, 8, .inl (fun _ => 0)), .inl (2, 8, .inl (fun _ => 0)), .inl (0, 8, .inl (fun _ => 0)), .inl (0, 8, .inl (fun _ => 0)), .inr (9, [.int 0, .ref 141, .ref 142, .ref 143, .ref 144, .ref 145, .ref 146, .ref 147, .ref 148, .ref 149, .ref 150, .int 0, .int 2, .int 999, .int 100, .ref 151, .ref 152, .ref 153, .ref 154, .ref 155, .ref 156, .ref 157, .ref 158, .ref 159, .ref 160, .int 0, .ref 161, .ref 162, .ref 163, .ref 164, .ref 165, .ref 166, .int 0, .ref 167, .long 0, .ref 168, .ref 169, .int 0, .ref 170, .int 0, .int 0, .long 0, .int 0, .int 0, .int 0, .int 0, .ref 171, .int 0, .ref 172]), .inl (0, 20, .inl (fun _ => 0)), .inl (0, 20, .inl (fun _ => 0)), .inl (0, 20, .inl (fun _ => 0)), .inl (0, 20, .inl (fun _ => 0)), .inl (1, 20, .inr (.inl (fun _ => 0))), .inl (0, 20, .inl (fun _ => 0)), .inl (0, 20, .inl (fun _ => 0)), .inl (0, 20, .inl (fun _ => 0)), .inl (0, 20, .inl (fun _ => 0)), .inl (0, 160, .inl (fun _ => 0)), .inl (0, 400, .inl (fun _ => 0)), .inl (0, 20, .inl (fun _ => 0)), .inl (0, 20, .inl (fun _ => 0)), .inl (0, 9, .inl (fun _ => 0)), .inl (0, 9, .inl (fun _ => 0)), .inl (0, 8, .inl (fun _ => 0)), .inl (0, 8, .inl (fil 20000 8)), .inl (0, 160, .inl (fun _ => 0)), .inl (0, 5, .inl (fun _ => 0)), .inl (0, 5, .inl f), .inl (0, 12, .inl (fun _ => 0)), .inl (0, 12, .inl (fun _ => 0)), .inl (0, 20, .inl (fun _ => 0)), .inl (0, 20, .inl (fun _ => 0)), .inl (0, 20, .inl (fun _ => 0)), .inl (0, 20, .inl (fun _ => 0)), .inl (0, 8, .inl (fil 64 8)), .inl (0, 20, .inl (fun _ => 0)), .inl (0, 100, .inl (fun _ => 0)), .inl (0, 160, .inl (fun _ => 0)), .inl (0, 48, .inl (fun _ => 0)), .inl (0, 48, .inl (fun _ => 0))]
set_option maxRecDepth 100000 in
set_option maxHeartbeats 40000000 in
theorem sp_X9_init_140 {G : vG} {l : Launch} : Sp G l yX9_init cX9_init 2 none 1 32 1472 [.ref 140] KP_X9_init_140 (QV (fun w2 => w2 = KQ_X9_init_140)) := by
  refine Sp_of_R [(some (.ref 140)), none] [none] rfl (by simp) rfl (Nat.le_of_ble_eq_true rfl) ?_
  refine R_aload_n (pc := 0) dX9_init_0 rfl rfl ?_
  refine R_objInit (pc := 1) wo_X9 dX9_init_1 (by decide) (by decide) ?_
  refine R_aload_n (pc := 4) dX9_init_4 rfl rfl ?_
  refine R_bipush (pc := 5) (v := 20) dX9_init_5 (by decide) ?_
  refine C_newI (pc := 7) 141 rfl (by decide) rfl (by decide) (by decide) (by decide) (by decide) dX9_init_7 ?_
  refine p_X9_7 (pc := 9) rfl rfl dX9_init_9 rfl (by decide) rfl rfl rfl ?_
  refine R_aload_n (pc := 12) dX9_init_12 rfl rfl ?_
  refine R_bipush (pc := 13) (v := 20) dX9_init_13 (by decide) ?_
  refine C_newI (pc := 15) 142 rfl (by decide) rfl (by decide) (by decide) (by decide) (by decide) dX9_init_15 ?_
  refine p_X9_13 (pc := 17) rfl rfl dX9_init_17 rfl (by decide) rfl rfl rfl ?_
  refine R_aload_n (pc := 20) dX9_init_20 rfl rfl ?_
  refine R_bipush (pc := 21) (v := 20) dX9_init_21 (by decide) ?_
  refine C_newI (pc := 23) 143 rfl (by decide) rfl (by decide) (by decide) (by decide) (by decide) dX9_init_23 ?_
  refine p_X9_16 (pc := 25) rfl rfl dX9_init_25 rfl (by decide) rfl rfl rfl ?_
  refine R_aload_n (pc := 28) dX9_init_28 rfl rfl ?_
  refine R_bipush (pc := 29) (v := 20) dX9_init_29 (by decide) ?_
  refine C_newI (pc := 31) 144 rfl (by decide) rfl (by decide) (by decide) (by decide) (by decide) dX9_init_31 ?_
  refine p_X9_19 (pc := 33) rfl rfl dX9_init_33 rfl (by decide) rfl rfl rfl ?_
  refine R_aload_n (pc := 36) dX9_init_36 rfl rfl ?_
  refine R_bipush (pc := 37) (v := 20) dX9_init_37 (by decide) ?_
  refine C_newJ (pc := 39) 145 rfl (by decide) rfl (by decide) (by decide) (by decide) (by decide) dX9_init_39 ?_
  refine p_X9_22 (pc := 41) rfl rfl dX9_init_41 rfl (by decide) rfl rfl rfl ?_
  refine R_aload_n (pc := 44) dX9_init_44 rfl rfl ?_
  refine R_bipush (pc := 45) (v := 20) dX9_init_45 (by decide) ?_
  refine C_newI (pc := 47) 146 rfl (by decide) rfl (by decide) (by decide) (by decide) (by decide) dX9_init_47 ?_
  refine p_X9_26 (pc := 49) rfl rfl dX9_init_49 rfl (by decide) rfl rfl rfl ?_
  refine R_aload_n (pc := 52) dX9_init_52 rfl rfl ?_
  refine R_bipush (pc := 53) (v := 20) dX9_init_53 (by decide) ?_
  refine C_newI (pc := 55) 147 rfl (by decide) rfl (by decide) (by decide) (by decide) (by decide) dX9_init_55 ?_
  refine p_X9_29 (pc := 57) rfl rfl dX9_init_57 rfl (by decide) rfl rfl rfl ?_
  refine R_aload_n (pc := 60) dX9_init_60 rfl rfl ?_
  refine R_bipush (pc := 61) (v := 20) dX9_init_61 (by decide) ?_
  refine C_newI (pc := 63) 148 rfl (by decide) rfl (by decide) (by decide) (by decide) (by decide) dX9_init_63 ?_
  refine p_X9_32 (pc := 65) rfl rfl dX9_init_65 rfl (by decide) rfl rfl rfl ?_
  refine R_aload_n (pc := 68) dX9_init_68 rfl rfl ?_
  refine R_bipush (pc := 69) (v := 20) dX9_init_69 (by decide) ?_
  refine C_newI (pc := 71) 149 rfl (by decide) rfl (by decide) (by decide) (by decide) (by decide) dX9_init_71 ?_
  refine p_X9_35 (pc := 73) rfl rfl dX9_init_73 rfl (by decide) rfl rfl rfl ?_
  refine R_aload_n (pc := 76) dX9_init_76 rfl rfl ?_
  refine R_sipush (pc := 77) (v := 160) dX9_init_77 (by decide) ?_
  refine C_newI (pc := 80) 150 rfl (by decide) rfl (by decide) (by decide) (by decide) (by decide) dX9_init_80 ?_
  refine p_X9_38 (pc := 82) rfl rfl dX9_init_82 rfl (by decide) rfl rfl rfl ?_
  refine R_aload_n (pc := 85) dX9_init_85 rfl rfl ?_
  refine R_iconst (pc := 86) (v := 2) dX9_init_86 (by decide) ?_
  refine p_X9_41 (pc := 87) rfl dX9_init_87 rfl (by decide) rfl rfl rfl ?_
  refine R_aload_n (pc := 90) dX9_init_90 rfl rfl ?_
  refine R_sipush (pc := 91) (v := 999) dX9_init_91 (by decide) ?_
  refine p_X9_45 (pc := 94) rfl dX9_init_94 rfl (by decide) rfl rfl rfl ?_
  refine R_aload_n (pc := 97) dX9_init_97 rfl rfl ?_
  refine R_bipush (pc := 98) (v := 100) dX9_init_98 (by decide) ?_
  refine p_X9_48 (pc := 100) rfl dX9_init_100 rfl (by decide) rfl rfl rfl ?_
  refine R_aload_n (pc := 103) dX9_init_103 rfl rfl ?_
  refine R_sipush (pc := 104) (v := 400) dX9_init_104 (by decide) ?_
  refine C_newI (pc := 107) 151 rfl (by decide) rfl (by decide) (by decide) (by decide) (by decide) dX9_init_107 ?_
  refine p_X9_51 (pc := 109) rfl rfl dX9_init_109 rfl (by decide) rfl rfl rfl ?_
  refine R_aload_n (pc := 112) dX9_init_112 rfl rfl ?_
  refine R_bipush (pc := 113) (v := 20) dX9_init_113 (by decide) ?_
  refine C_newI (pc := 115) 152 rfl (by decide) rfl (by decide) (by decide) (by decide) (by decide) dX9_init_115 ?_
  refine p_X9_54 (pc := 117) rfl rfl dX9_init_117 rfl (by decide) rfl rfl rfl ?_
  refine R_aload_n (pc := 120) dX9_init_120 rfl rfl ?_
  refine R_bipush (pc := 121) (v := 20) dX9_init_121 (by decide) ?_
  refine C_newI (pc := 123) 153 rfl (by decide) rfl (by decide) (by decide) (by decide) (by decide) dX9_init_123 ?_
  refine p_X9_57 (pc := 125) rfl rfl dX9_init_125 rfl (by decide) rfl rfl rfl ?_
  refine R_aload_n (pc := 128) dX9_init_128 rfl rfl ?_
  refine R_bipush (pc := 129) (v := 9) dX9_init_129 (by decide) ?_
  refine C_newI (pc := 131) 154 rfl (by decide) rfl (by decide) (by decide) (by decide) (by decide) dX9_init_131 ?_
  refine p_X9_60 (pc := 133) rfl rfl dX9_init_133 rfl (by decide) rfl rfl rfl ?_
  refine R_aload_n (pc := 136) dX9_init_136 rfl rfl ?_
  refine R_bipush (pc := 137) (v := 9) dX9_init_137 (by decide) ?_
  refine C_newI (pc := 139) 155 rfl (by decide) rfl (by decide) (by decide) (by decide) (by decide) dX9_init_139 ?_
  refine p_X9_63 (pc := 141) rfl rfl dX9_init_141 rfl (by decide) rfl rfl rfl ?_
  refine R_aload_n (pc := 144) dX9_init_144 rfl rfl ?_
  refine R_bipush (pc := 145) (v := 8) dX9_init_145 (by decide) ?_
  refine C_newI (pc := 147) 156 rfl (by decide) rfl (by decide) (by decide) (by decide) (by decide) dX9_init_147 ?_
  refine p_X9_66 (pc := 149) rfl rfl dX9_init_149 rfl (by decide) rfl rfl rfl ?_
  refine R_aload_n (pc := 152) dX9_init_152 rfl rfl ?_
  refine R_bipush (pc := 153) (v := 8) dX9_init_153 (by decide) ?_
  refine C_newI (pc := 155) 157 rfl (by decide) rfl (by decide) (by decide) (by decide) (by decide) dX9_init_155 ?_
  refine p_X9_69 (pc := 157) rfl rfl dX9_init_157 rfl (by decide) rfl rfl rfl ?_
  refine R_aload_n (pc := 160) dX9_init_160 rfl rfl ?_
  refine R_sipush (pc := 161) (v := 160) dX9_init_161 (by decide) ?_
  refine C_newI (pc := 164) 158 rfl (by decide) rfl (by decide) (by decide) (by decide) (by decide) dX9_init_164 ?_
  refine p_X9_72 (pc := 166) rfl rfl dX9_init_166 rfl (by decide) rfl rfl rfl ?_
  refine R_aload_n (pc := 169) dX9_init_169 rfl rfl ?_
  refine R_iconst (pc := 170) (v := 5) dX9_init_170 (by decide) ?_
  refine C_newI (pc := 171) 159 rfl (by decide) rfl (by decide) (by decide) (by decide) (by decide) dX9_init_171 ?_
  refine p_X9_75 (pc := 173) rfl rfl dX9_init_173 rfl (by decide) rfl rfl rfl ?_
  refine R_aload_n (pc := 176) dX9_init_176 rfl rfl ?_
  refine R_iconst (pc := 177) (v := 5) dX9_init_177 (by decide) ?_
  refine C_newI (pc := 178) 160 rfl (by decide) rfl (by decide) (by decide) (by decide) (by decide) dX9_init_178 ?_
  refine p_X9_78 (pc := 180) rfl rfl dX9_init_180 rfl (by decide) rfl rfl rfl ?_
  refine R_aload_n (pc := 183) dX9_init_183 rfl rfl ?_
  refine R_bipush (pc := 184) (v := 12) dX9_init_184 (by decide) ?_
  refine C_newI (pc := 186) 161 rfl (by decide) rfl (by decide) (by decide) (by decide) (by decide) dX9_init_186 ?_
  refine p_X9_81 (pc := 188) rfl rfl dX9_init_188 rfl (by decide) rfl rfl rfl ?_
  refine R_aload_n (pc := 191) dX9_init_191 rfl rfl ?_
  refine R_bipush (pc := 192) (v := 12) dX9_init_192 (by decide) ?_
  refine C_newI (pc := 194) 162 rfl (by decide) rfl (by decide) (by decide) (by decide) (by decide) dX9_init_194 ?_
  refine p_X9_84 (pc := 196) rfl rfl dX9_init_196 rfl (by decide) rfl rfl rfl ?_
  refine R_aload_n (pc := 199) dX9_init_199 rfl rfl ?_
  refine R_bipush (pc := 200) (v := 20) dX9_init_200 (by decide) ?_
  refine C_newI (pc := 202) 163 rfl (by decide) rfl (by decide) (by decide) (by decide) (by decide) dX9_init_202 ?_
  refine p_X9_87 (pc := 204) rfl rfl dX9_init_204 rfl (by decide) rfl rfl rfl ?_
  refine R_aload_n (pc := 207) dX9_init_207 rfl rfl ?_
  refine R_bipush (pc := 208) (v := 20) dX9_init_208 (by decide) ?_
  refine C_newI (pc := 210) 164 rfl (by decide) rfl (by decide) (by decide) (by decide) (by decide) dX9_init_210 ?_
  refine p_X9_90 (pc := 212) rfl rfl dX9_init_212 rfl (by decide) rfl rfl rfl ?_
  refine R_aload_n (pc := 215) dX9_init_215 rfl rfl ?_
  refine R_bipush (pc := 216) (v := 20) dX9_init_216 (by decide) ?_
  refine C_newI (pc := 218) 165 rfl (by decide) rfl (by decide) (by decide) (by decide) (by decide) dX9_init_218 ?_
  refine p_X9_93 (pc := 220) rfl rfl dX9_init_220 rfl (by decide) rfl rfl rfl ?_
  refine R_aload_n (pc := 223) dX9_init_223 rfl rfl ?_
  refine R_bipush (pc := 224) (v := 20) dX9_init_224 (by decide) ?_
  refine C_newI (pc := 226) 166 rfl (by decide) rfl (by decide) (by decide) (by decide) (by decide) dX9_init_226 ?_
  refine p_X9_96 (pc := 228) rfl rfl dX9_init_228 rfl (by decide) rfl rfl rfl ?_
  refine R_aload_n (pc := 231) dX9_init_231 rfl rfl ?_
  refine R_bipush (pc := 232) (v := 8) dX9_init_232 (by decide) ?_
  refine C_newI (pc := 234) 167 rfl (by decide) rfl (by decide) (by decide) (by decide) (by decide) dX9_init_234 ?_
  refine p_X9_99 (pc := 236) rfl rfl dX9_init_236 rfl (by decide) rfl rfl rfl ?_
  refine R_aload_n (pc := 239) dX9_init_239 rfl rfl ?_
  refine R_bipush (pc := 240) (v := 20) dX9_init_240 (by decide) ?_
  refine C_newI (pc := 242) 168 rfl (by decide) rfl (by decide) (by decide) (by decide) (by decide) dX9_init_242 ?_
  refine p_X9_102 (pc := 244) rfl rfl dX9_init_244 rfl (by decide) rfl rfl rfl ?_
  refine R_aload_n (pc := 247) dX9_init_247 rfl rfl ?_
  refine R_bipush (pc := 248) (v := 100) dX9_init_248 (by decide) ?_
  refine C_newI (pc := 250) 169 rfl (by decide) rfl (by decide) (by decide) (by decide) (by decide) dX9_init_250 ?_
  refine p_X9_105 (pc := 252) rfl rfl dX9_init_252 rfl (by decide) rfl rfl rfl ?_
  refine R_aload_n (pc := 255) dX9_init_255 rfl rfl ?_
  refine R_sipush (pc := 256) (v := 160) dX9_init_256 (by decide) ?_
  refine C_newI (pc := 259) 170 rfl (by decide) rfl (by decide) (by decide) (by decide) (by decide) dX9_init_259 ?_
  refine p_X9_108 (pc := 261) rfl rfl dX9_init_261 rfl (by decide) rfl rfl rfl ?_
  refine R_aload_n (pc := 264) dX9_init_264 rfl rfl ?_
  refine R_bipush (pc := 265) (v := 48) dX9_init_265 (by decide) ?_
  refine C_newI (pc := 267) 171 rfl (by decide) rfl (by decide) (by decide) (by decide) (by decide) dX9_init_267 ?_
  refine p_X9_111 (pc := 269) rfl rfl dX9_init_269 rfl (by decide) rfl rfl rfl ?_
  refine R_aload_n (pc := 272) dX9_init_272 rfl rfl ?_
  refine R_bipush (pc := 273) (v := 48) dX9_init_273 (by decide) ?_
  refine C_newI (pc := 275) 172 rfl (by decide) rfl (by decide) (by decide) (by decide) (by decide) dX9_init_275 ?_
  refine p_X9_114 (pc := 277) rfl rfl dX9_init_277 rfl (by decide) rfl rfl rfl ?_
  refine R_iconst (pc := 280) (v := 0) dX9_init_280 (by decide) ?_
  refine st_2_1_i_a (pc := 281) dX9_init_281 ?_
  have HL282 : ∀ (q j : Nat), j + q = 8 → R G l yX9_init cX9_init 2 none 1 32 1472 (QV (fun w2 => w2 = KQ_X9_init_140)) 282 [(some (.ref 140)), (some (.int (nI j)))] [] (KF5 (fil 20000 j) (fil 64 j)) 32 1472 := by
    intro q
    induction q with
    | zero =>
      intro j hj
      obtain rfl : j = 8 := by omega
      refine R_iload_n (pc := 282) dX9_init_282 rfl rfl ?_
      refine R_bipush (pc := 283) (v := 8) dX9_init_283 (by decide) ?_
      refine R_icge (pc := 285) 311 dX9_init_285 (by decide) (fun _ => ?_) (fun h => absurd (by decide) h)
      refine R_iconst (pc := 311) (v := 0) dX9_init_311 (by decide) ?_
      refine st_2_1_i_a (pc := 312) dX9_init_312 ?_
      have HL313 : ∀ (q j : Nat), j + q = 5 → R G l yX9_init cX9_init 2 none 1 32 1472 (QV (fun w2 => w2 = KQ_X9_init_140)) 313 [(some (.ref 140)), (some (.int (nI j)))] [] (KF6 (fil 20000 j)) 32 1472 := by
        intro q
        induction q with
        | zero =>
          intro j hj
          obtain rfl : j = 5 := by omega
          refine R_iload_n (pc := 313) dX9_init_313 rfl rfl ?_
          refine R_iconst (pc := 314) (v := 5) dX9_init_314 (by decide) ?_
          refine R_icge (pc := 315) 333 dX9_init_315 (by decide) (fun _ => ?_) (fun h => absurd (by decide) h)
          exact R_vret (pc := 333) dX9_init_333 rfl (by decide) (by decide) ⟨rfl, rfl⟩
        | succ q ih =>
          intro j hj
          have hlt : j < 5 := by omega
          refine R_iload_n (pc := 313) dX9_init_313 rfl rfl ?_
          refine R_iconst (pc := 314) (v := 5) dX9_init_314 (by decide) ?_
          refine R_icge (pc := 315) 333 dX9_init_315 (by decide) (fun h => absurd h (nI_ge hlt (by decide))) (fun _ => ?_)
          refine R_aload_n (pc := 318) dX9_init_318 rfl rfl ?_
          refine g_X9_78 (pc := 319) rfl dX9_init_319 (rfl) rfl ?_
          refine R_iload_n (pc := 322) dX9_init_322 rfl rfl ?_
          refine R_sipush (pc := 323) (v := 20000) dX9_init_323 (by decide) ?_
          refine W_iastore (pc := 326) dX9_init_326 rfl (vp_in_nI hlt (by decide)) (by rw [nI_clamp (by omega), fil_s]) ?_
          refine inc_2_1_1_a (pc := 327) dX9_init_327 ?_
          refine R_goto (pc := 330) 313 dX9_init_330 (by decide) ?_
          rw [nI_1]
          exact ih (j + 1) (by omega)
      refine R_weq (KF6 (fil 20000 0)) (by rw [fil_0]; rfl) ?_
      exact HL313 5 0 (by omega)
    | succ q ih =>
      intro j hj
      have hlt : j < 8 := by omega
      refine R_iload_n (pc := 282) dX9_init_282 rfl rfl ?_
      refine R_bipush (pc := 283) (v := 8) dX9_init_283 (by decide) ?_
      refine R_icge (pc := 285) 311 dX9_init_285 (by decide) (fun h => absurd h (nI_ge hlt (by decide))) (fun _ => ?_)
      refine R_aload_n (pc := 288) dX9_init_288 rfl rfl ?_
      refine g_X9_69 (pc := 289) rfl dX9_init_289 (rfl) rfl ?_
      refine R_iload_n (pc := 292) dX9_init_292 rfl rfl ?_
      refine R_sipush (pc := 293) (v := 20000) dX9_init_293 (by decide) ?_
      refine W_iastore (pc := 296) dX9_init_296 rfl (vp_in_nI hlt (by decide)) (by rw [nI_clamp (by omega), fil_s]) ?_
      refine R_aload_n (pc := 297) dX9_init_297 rfl rfl ?_
      refine g_X9_99 (pc := 298) rfl dX9_init_298 (rfl) rfl ?_
      refine R_iload_n (pc := 301) dX9_init_301 rfl rfl ?_
      refine R_bipush (pc := 302) (v := 64) dX9_init_302 (by decide) ?_
      refine W_iastore (pc := 304) dX9_init_304 rfl (vp_in_nI hlt (by decide)) (by rw [nI_clamp (by omega), fil_s]) ?_
      refine inc_2_1_1_a (pc := 305) dX9_init_305 ?_
      refine R_goto (pc := 308) 282 dX9_init_308 (by decide) ?_
      rw [nI_1]
      exact ih (j + 1) (by omega)
  refine R_weq (KF5 (fil 20000 0) (fil 64 0)) (by rw [fil_0, fil_0]; rfl) ?_
  exact HL282 8 0 (by omega)
