/-! CONSTRUCTORS: words; rows over a prefix -/
set_option maxRecDepth 100000 in
theorem wac : Cond.arrayClass .int ∈ WS := ws_t 67 rfl rfl
set_option maxRecDepth 100000 in
theorem woi : Cond.instanceMethod Lib.objectInit ∈ WS := ws_t 30 rfl rfl
set_option maxRecDepth 100000 in
theorem woc : Cond.code Lib.objectInit ⟨#[0xb1]⟩ 1 none ∈ WS := ws_t 31 rfl rfl
set_option maxRecDepth 100000 in
theorem oi_X9 : Cond.methodLink RX9 1 Lib.objectInit ∈ WS := ws_t 29 rfl rfl
set_option maxRecDepth 100000 in
theorem oi_X0 : Cond.methodLink RX0 1 Lib.objectInit ∈ WS := ws_t 255 rfl rfl
set_option maxRecDepth 100000 in
theorem oi_X1 : Cond.methodLink RX1 3 Lib.objectInit ∈ WS := ws_t 151 rfl rfl
set_option maxRecDepth 100000 in
theorem oi_X2 : Cond.methodLink RX2 1 Lib.objectInit ∈ WS := ws_t 239 rfl rfl
set_option maxRecDepth 100000 in
theorem oi_X3 : Cond.methodLink RX3 3 Lib.objectInit ∈ WS := ws_t 73 rfl rfl
set_option maxRecDepth 100000 in
theorem oi_X4 : Cond.methodLink RX4 3 Lib.objectInit ∈ WS := ws_t 276 rfl rfl
set_option maxRecDepth 100000 in
theorem oi_X5 : Cond.methodLink RX5 3 Lib.objectInit ∈ WS := ws_t 135 rfl rfl
set_option maxRecDepth 100000 in
theorem oi_X6 : Cond.methodLink RX6 3 Lib.objectInit ∈ WS := ws_t 201 rfl rfl
set_option maxRecDepth 100000 in
theorem oi_X7 : Cond.methodLink RX7 3 Lib.objectInit ∈ WS := ws_t 170 rfl rfl
set_option maxRecDepth 100000 in
theorem oi_X8 : Cond.methodLink RX8 3 Lib.objectInit ∈ WS := ws_t 37 rfl rfl
set_option maxRecDepth 100000 in
theorem oi_X10 : Cond.methodLink RX10 11 Lib.objectInit ∈ WS := ws_t 1157 rfl rfl
set_option maxRecDepth 100000 in
theorem cl_X0_11 : Cond.classLink RX0 11 ("[" ++ (FieldType.array .int).toString) ∈ WS := ws_t 256 rfl rfl
set_option maxRecDepth 100000 in
theorem cl_X0_16 : Cond.classLink RX0 16 RX2 ∈ WS := ws_t 257 rfl rfl
set_option maxRecDepth 100000 in
theorem cl_X2_11 : Cond.classLink RX2 11 ("[" ++ (FieldType.array .int).toString) ∈ WS := ws_t 240 rfl rfl
set_option maxRecDepth 100000 in
theorem cl_X9_16 : Cond.classLink RX9 16 RX3 ∈ WS := ws_t 68 rfl rfl
set_option maxRecDepth 100000 in
theorem cl_X9_26 : Cond.classLink RX9 26 RX5 ∈ WS := ws_t 129 rfl rfl
set_option maxRecDepth 100000 in
theorem cl_X9_37 : Cond.classLink RX9 37 RX1 ∈ WS := ws_t 146 rfl rfl
set_option maxRecDepth 100000 in
theorem cl_X9_47 : Cond.classLink RX9 47 RX7 ∈ WS := ws_t 165 rfl rfl
set_option maxRecDepth 100000 in
theorem cl_X9_54 : Cond.classLink RX9 54 RX6 ∈ WS := ws_t 196 rfl rfl
set_option maxRecDepth 100000 in
theorem cl_X9_66 : Cond.classLink RX9 66 RX2 ∈ WS := ws_t 234 rfl rfl
set_option maxRecDepth 100000 in
theorem cl_X9_7 : Cond.classLink RX9 7 RX8 ∈ WS := ws_t 32 rfl rfl
set_option maxRecDepth 100000 in
theorem cl_X9_73 : Cond.classLink RX9 73 RX0 ∈ WS := ws_t 250 rfl rfl
set_option maxRecDepth 100000 in
theorem cl_X9_80 : Cond.classLink RX9 80 RX4 ∈ WS := ws_t 271 rfl rfl
set_option maxRecDepth 100000 in
theorem in_0 : Cond.instantiable RX0 3 ∈ WS := ws_t 251 rfl rfl
set_option maxRecDepth 100000 in
theorem ini_0 : Cond.initialized RX0 ∈ WS := ws_t 9 rfl rfl
set_option maxRecDepth 100000 in
theorem mi_X0 : MI mX0_init 0 := ⟨ini_0, ws_t 254 rfl rfl, ws_t 253 rfl rfl, rfl, rfl, ⟨by decide, by decide, by decide +kernel⟩⟩
theorem df_0 : ∀ (G : GG) j, j < 3 → defaultValue (tyX0 j) = vp_V (([.inr none, .inr none, .inl 0] : List FE).map (fE G)) j := by
  intro G j hj
  rcases (show j = 0 ∨ j = 1 ∨ j = 2 by omega) with rfl | rfl | rfl <;> rfl
set_option maxRecDepth 100000 in
theorem in_1 : Cond.instantiable RX1 3 ∈ WS := ws_t 147 rfl rfl
set_option maxRecDepth 100000 in
theorem ini_1 : Cond.initialized RX1 ∈ WS := ws_t 5 rfl rfl
set_option maxRecDepth 100000 in
theorem mi_X1 : MI mX1_init 0 := ⟨ini_1, ws_t 150 rfl rfl, ws_t 149 rfl rfl, rfl, rfl, ⟨by decide, by decide, by decide +kernel⟩⟩
theorem df_1 : ∀ (G : GG) j, j < 3 → defaultValue (tyX1 j) = vp_V (([.inr none, .inr none, .inl 0] : List FE).map (fE G)) j := by
  intro G j hj
  rcases (show j = 0 ∨ j = 1 ∨ j = 2 by omega) with rfl | rfl | rfl <;> rfl
set_option maxRecDepth 100000 in
theorem in_2 : Cond.instantiable RX2 2 ∈ WS := ws_t 235 rfl rfl
set_option maxRecDepth 100000 in
theorem ini_2 : Cond.initialized RX2 ∈ WS := ws_t 8 rfl rfl
set_option maxRecDepth 100000 in
theorem mi_X2 : MI mX2_init 0 := ⟨ini_2, ws_t 238 rfl rfl, ws_t 237 rfl rfl, rfl, rfl, ⟨by decide, by decide, by decide +kernel⟩⟩
theorem df_2 : ∀ (G : GG) j, j < 2 → defaultValue (tyX2 j) = vp_V (([.inr none, .inl 0] : List FE).map (fE G)) j := by
  intro G j hj
  rcases (show j = 0 ∨ j = 1 by omega) with rfl | rfl <;> rfl
set_option maxRecDepth 100000 in
theorem in_3 : Cond.instantiable RX3 13 ∈ WS := ws_t 69 rfl rfl
set_option maxRecDepth 100000 in
theorem ini_3 : Cond.initialized RX3 ∈ WS := ws_t 3 rfl rfl
set_option maxRecDepth 100000 in
theorem mi_X3 : MI mX3_init 0 := ⟨ini_3, ws_t 72 rfl rfl, ws_t 71 rfl rfl, rfl, rfl, ⟨by decide, by decide, by decide +kernel⟩⟩
theorem df_3 : ∀ (G : GG) j, j < 13 → defaultValue (tyX3 j) = vp_V (([.inl 0, .inr none, .inr none, .inr none, .inr none, .inr none, .inr none, .inr none, .inr none, .inr none, .inl 0, .inl 0, .inl 0] : List FE).map (fE G)) j := by
  intro G j hj
  rcases (show j = 0 ∨ j = 1 ∨ j = 2 ∨ j = 3 ∨ j = 4 ∨ j = 5 ∨ j = 6 ∨ j = 7 ∨ j = 8 ∨ j = 9 ∨ j = 10 ∨ j = 11 ∨ j = 12 by omega) with rfl | rfl | rfl | rfl | rfl | rfl | rfl | rfl | rfl | rfl | rfl | rfl | rfl <;> rfl
set_option maxRecDepth 100000 in
theorem in_4 : Cond.instantiable RX4 5 ∈ WS := ws_t 272 rfl rfl
set_option maxRecDepth 100000 in
theorem ini_4 : Cond.initialized RX4 ∈ WS := ws_t 10 rfl rfl
set_option maxRecDepth 100000 in
theorem mi_X4 : MI mX4_init 0 := ⟨ini_4, ws_t 275 rfl rfl, ws_t 274 rfl rfl, rfl, rfl, ⟨by decide, by decide, by decide +kernel⟩⟩
theorem df_4 : ∀ (G : GG) j, j < 5 → defaultValue (tyX4 j) = vp_V (([.inr none, .inr none, .inl 0, .inl 0, .inl 0] : List FE).map (fE G)) j := by
  intro G j hj
  rcases (show j = 0 ∨ j = 1 ∨ j = 2 ∨ j = 3 ∨ j = 4 by omega) with rfl | rfl | rfl | rfl | rfl <;> rfl
set_option maxRecDepth 100000 in
theorem in_5 : Cond.instantiable RX5 3 ∈ WS := ws_t 131 rfl rfl
set_option maxRecDepth 100000 in
theorem ini_5 : Cond.initialized RX5 ∈ WS := ws_t 4 rfl rfl
set_option maxRecDepth 100000 in
theorem mi_X5 : MI mX5_init 0 := ⟨ini_5, ws_t 134 rfl rfl, ws_t 133 rfl rfl, rfl, rfl, ⟨by decide, by decide, by decide +kernel⟩⟩
theorem df_5 : ∀ (G : GG) j, j < 3 → defaultValue (tyX5 j) = vp_V (([.inr none, .inl 0, .inr none] : List FE).map (fE G)) j := by
  intro G j hj
  rcases (show j = 0 ∨ j = 1 ∨ j = 2 by omega) with rfl | rfl | rfl <;> rfl
set_option maxRecDepth 100000 in
theorem in_6 : Cond.instantiable RX6 9 ∈ WS := ws_t 197 rfl rfl
set_option maxRecDepth 100000 in
theorem ini_6 : Cond.initialized RX6 ∈ WS := ws_t 7 rfl rfl
set_option maxRecDepth 100000 in
theorem mi_X6 : MI mX6_init 2 := ⟨ini_6, ws_t 200 rfl rfl, ws_t 199 rfl rfl, rfl, rfl, ⟨by decide, by decide, by decide +kernel⟩⟩
theorem df_6 : ∀ (G : GG) j, j < 9 → defaultValue (tyX6 j) = vp_V (([.inr none, .inr none, .inr none, .inr none, .inr none, .inr none, .inr none, .inl 0, .inl 0] : List FE).map (fE G)) j := by
  intro G j hj
  rcases (show j = 0 ∨ j = 1 ∨ j = 2 ∨ j = 3 ∨ j = 4 ∨ j = 5 ∨ j = 6 ∨ j = 7 ∨ j = 8 by omega) with rfl | rfl | rfl | rfl | rfl | rfl | rfl | rfl | rfl <;> rfl
set_option maxRecDepth 100000 in
theorem in_7 : Cond.instantiable RX7 7 ∈ WS := ws_t 166 rfl rfl
set_option maxRecDepth 100000 in
theorem ini_7 : Cond.initialized RX7 ∈ WS := ws_t 6 rfl rfl
set_option maxRecDepth 100000 in
theorem mi_X7 : MI mX7_init 0 := ⟨ini_7, ws_t 169 rfl rfl, ws_t 168 rfl rfl, rfl, rfl, ⟨by decide, by decide, by decide +kernel⟩⟩
theorem df_7 : ∀ (G : GG) j, j < 7 → defaultValue (tyX7 j) = vp_V (([.inr none, .inr none, .inr none, .inl 0, .inl 0, .inl 0, .inl 0] : List FE).map (fE G)) j := by
  intro G j hj
  rcases (show j = 0 ∨ j = 1 ∨ j = 2 ∨ j = 3 ∨ j = 4 ∨ j = 5 ∨ j = 6 by omega) with rfl | rfl | rfl | rfl | rfl | rfl | rfl <;> rfl
set_option maxRecDepth 100000 in
theorem in_8 : Cond.instantiable RX8 7 ∈ WS := ws_t 33 rfl rfl
set_option maxRecDepth 100000 in
theorem ini_8 : Cond.initialized RX8 ∈ WS := ws_t 2 rfl rfl
set_option maxRecDepth 100000 in
theorem mi_X8 : MI mX8_init 0 := ⟨ini_8, ws_t 36 rfl rfl, ws_t 35 rfl rfl, rfl, rfl, ⟨by decide, by decide, by decide +kernel⟩⟩
theorem df_8 : ∀ (G : GG) j, j < 7 → defaultValue (tyX8 j) = vp_V (([.inr none, .inl 0, .inl 0, .inl 0, .inl 0, .inl 0, .inl 0] : List FE).map (fE G)) j := by
  intro G j hj
  rcases (show j = 0 ∨ j = 1 ∨ j = 2 ∨ j = 3 ∨ j = 4 ∨ j = 5 ∨ j = 6 by omega) with rfl | rfl | rfl | rfl | rfl | rfl | rfl <;> rfl
set_option maxRecDepth 100000 in
theorem in_9 : Cond.instantiable RX9 17 ∈ WS := ws_t 25 rfl rfl
set_option maxRecDepth 100000 in
theorem ini_9 : Cond.initialized RX9 ∈ WS := ws_t 1 rfl rfl
set_option maxRecDepth 100000 in
theorem mi_X9 : MI mX9_init 0 := ⟨ini_9, ws_t 28 rfl rfl, ws_t 27 rfl rfl, rfl, rfl, ⟨by decide, by decide, by decide +kernel⟩⟩
theorem df_9 : ∀ (G : GG) j, j < 17 → defaultValue (tyX9 j) = vp_V (([.inr none, .inr none, .inr none, .inr none, .inr none, .inr none, .inr none, .inr none, .inr none, .inr none, .inr none, .inr none, .inr none, .inr none, .inl 0, .inl 0, .inl 0] : List FE).map (fE G)) j := by
  intro G j hj
  rcases (show j = 0 ∨ j = 1 ∨ j = 2 ∨ j = 3 ∨ j = 4 ∨ j = 5 ∨ j = 6 ∨ j = 7 ∨ j = 8 ∨ j = 9 ∨ j = 10 ∨ j = 11 ∨ j = 12 ∨ j = 13 ∨ j = 14 ∨ j = 15 ∨ j = 16 by omega) with rfl | rfl | rfl | rfl | rfl | rfl | rfl | rfl | rfl | rfl | rfl | rfl | rfl | rfl | rfl | rfl | rfl <;> rfl
set_option maxRecDepth 100000 in
theorem in_10 : Cond.instantiable RX10 53 ∈ WS := ws_t 1153 rfl rfl
set_option maxRecDepth 100000 in
theorem ini_10 : Cond.initialized RX10 ∈ WS := ws_t 12 rfl rfl
set_option maxRecDepth 100000 in
theorem mi_X10 : MI mX10_init 0 := ⟨ini_10, ws_t 1156 rfl rfl, ws_t 1155 rfl rfl, rfl, rfl, ⟨by decide, by decide, by decide +kernel⟩⟩
theorem df_10 : ∀ (G : GG) j, j < 53 → defaultValue (tyX10 j) = vp_V (([.inl 0, .inr none, .inl 0, .inl 0, .inl 0, .inl 0, .inl 0, .inl 0, .inl 0, .inr none, .inr none, .inr none, .inr none, .inr none, .inl 0, .inl 0, .inl 0, .inl 0, .inl 0, .inl 0, .inl 0, .inr none, .inr none, .inr none, .inr none, .inr none, .inr none, .inl 0, .inr none, .inr none, .inr none, .inl 0, .inl 0, .inl 0, .inl 0, .inl 0, .inl 0, .inr none, .inr none, .inr none, .inr none, .inr none, .inl 0, .inr none, .inr none, .inl 0, .inr none, .inl 0, .inr none, .inl 0, .inl 0, .inr none, .inl 0] : List FE).map (fE G)) j := by
  intro G j hj
  rcases (show j = 0 ∨ j = 1 ∨ j = 2 ∨ j = 3 ∨ j = 4 ∨ j = 5 ∨ j = 6 ∨ j = 7 ∨ j = 8 ∨ j = 9 ∨ j = 10 ∨ j = 11 ∨ j = 12 ∨ j = 13 ∨ j = 14 ∨ j = 15 ∨ j = 16 ∨ j = 17 ∨ j = 18 ∨ j = 19 ∨ j = 20 ∨ j = 21 ∨ j = 22 ∨ j = 23 ∨ j = 24 ∨ j = 25 ∨ j = 26 ∨ j = 27 ∨ j = 28 ∨ j = 29 ∨ j = 30 ∨ j = 31 ∨ j = 32 ∨ j = 33 ∨ j = 34 ∨ j = 35 ∨ j = 36 ∨ j = 37 ∨ j = 38 ∨ j = 39 ∨ j = 40 ∨ j = 41 ∨ j = 42 ∨ j = 43 ∨ j = 44 ∨ j = 45 ∨ j = 46 ∨ j = 47 ∨ j = 48 ∨ j = 49 ∨ j = 50 ∨ j = 51 ∨ j = 52 by omega) with rfl | rfl | rfl | rfl | rfl | rfl | rfl | rfl | rfl | rfl | rfl | rfl | rfl | rfl | rfl | rfl | rfl | rfl | rfl | rfl | rfl | rfl | rfl | rfl | rfl | rfl | rfl | rfl | rfl | rfl | rfl | rfl | rfl | rfl | rfl | rfl | rfl | rfl | rfl | rfl | rfl | rfl | rfl | rfl | rfl | rfl | rfl | rfl | rfl | rfl | rfl | rfl | rfl <;> rfl
section GPre
variable {M M' : MD} {d mc ms nc ns d' mc' ms' : Nat} {R : Room} {Post : Option Value → GG → Heap → Prop} {pc : Nat} {L : List (Nat × Value)} {st : List Value} {pre l l' : List EE}
theorem gp_get {j : Nat} {e : EE} (h : l[j]? = some e) : (pre ++ l)[pre.length + j]? = some e := by
  rw [List.getElem?_append_right (by omega), show pre.length + j - pre.length = j by omega]
  exact h
theorem gp_set {j : Nat} {e : EE} : (pre ++ l).set (pre.length + j) e = pre ++ l.set j e := by
  rw [List.set_append_right (s := pre) (t := l) _ _ (by omega), show pre.length + j - pre.length = j by omega]
theorem p_newa {n : Int32} {N k9 : Nat} (hn : n = nI N) (hN : N < 10000) (hl' : l ++ [.inr (.inl (N, fun _ => 0))] = l') (hk9 : l.length = k9) (hl : pre.length + k9 < 163) (hc : nc + 1 ≤ R.cells) (hs : ns + N ≤ R.slots) (hd : decode M.2.1 pc = .ok (.newarray .int, 2)) (k : PG M R mc ms Post (pc + 2) L (.ref (pre.length + k9) :: st) (pre ++ l') (nc + 1) (ns + N)) : PG M R mc ms Post pc L (.int n :: st) (pre ++ l) nc ns := by
  subst hl'
  subst hk9
  refine q_newa wac hn hN (by rw [List.length_append]; exact hl) hc hs hd ?_
  rw [List.length_append, List.append_assoc]
  exact k
theorem p_put {C9 : String} {T : u_T} {N ci idx j : Nat} {fs : List FE} {g : FE} {v : Value} {ty : FieldType} (ty0 : Nat → FieldType) (k9 : Nat) (hin : ∀ w ∈ u_ws C9 T N, w ∈ WS) (hty : ∀ k, k < N → parseFieldDescriptor (T k).2.2.1 = some (ty0 k)) (hnm : ∀ a, a < N → ∀ b, b < N → a ≠ b → (T a).2.1 ≠ (T b).2.1) (hw : Cond.fieldLink M.1.cls idx (T k9).1 (T k9).2.1 (T k9).2.2.1 ∈ WS) (hcl : vwCl[ci]? = some (C9, T, N)) (hk : k9 < N) (hmf : (T k9).2.2.2 = true → M.1.name = "<init>" ∧ (T k9).1 = M.1.cls) (hpd : parseFieldDescriptor (T k9).2.2.1 = some ty) (hna : ∀ G, narrow ty (fE G g) = fE G g) (hfi : ∀ G, fits ty (fE G g) = true) (hd : decode M.2.1 pc = .ok (.putfield idx, 3)) (he : l[j]? = some (.inl (ci, fs))) (hl : k9 < fs.length) (hg : fV g = v) (hl' : l.set j (.inl (ci, fs.set k9 g)) = l') (k : PG M R mc ms Post (pc + 3) L st (pre ++ l') nc ns) : PG M R mc ms Post pc L (v :: .ref (pre.length + j) :: st) (pre ++ l) nc ns := by
  subst hl'
  refine q_put ty0 k9 hin hty hnm hw hcl hk hmf hpd hna hfi hd (gp_get he) hl hg ?_
  rw [gp_set]
  exact k
theorem p_mna {idx N K k9 : Nat} {n m9 : Int32} (hw : Cond.classLink M.1.cls idx ("[" ++ (FieldType.array .int).toString) ∈ WS) (hn : n = nI N) (hm9 : m9 = nI K) (hN : N < 100) (hK9 : K < 1000) (hk9 : l.length = k9) (hl' : l ++ (.inr (.inr (2, (List.range N).map (fun i => some (pre.length + k9 + 1 + i)))) :: List.replicate N (.inr (.inl (K, fun _ => 0)))) = l') (hl : pre.length + k9 + (1 + N) ≤ 163) (hc : nc + (1 + N) ≤ R.cells) (hs : ns + (N + N * K) ≤ R.slots) (hd : decode M.2.1 pc = .ok (.multianewarray idx 2, 4)) (k : PG M R mc ms Post (pc + 4) L (.ref (pre.length + k9) :: st) (pre ++ l') (nc + 1 + N) (ns + N + N * K)) : PG M R mc ms Post pc L (.int m9 :: .int n :: st) (pre ++ l) nc ns := by
  subst hl'
  subst hk9
  refine q_mna hw wac hn hm9 hN hK9 (by rw [List.length_append]; exact hl) hc hs hd ?_
  rw [List.length_append, List.append_assoc]
  exact k
end GPre
def histB (b : Nat) : List EE := .inl (2, [.inr (some (b + 1)), .inl (nI 0)]) :: .inr (.inr (2, (List.range 16).map (fun i => some (b + 1 + 1 + i)))) :: List.replicate 16 (.inr (.inl (42, fun _ => 0)))
def tapeB (b : Nat) : List EE := [.inl (8, [.inr (some (b + 1)), .inl (nI 0), .inl (nI 0), .inl (nI 0), .inl (nI 0), .inl (-1), .inl (nI 0)]), .inr (.inl (600, fun _ => 0))]
set_option maxHeartbeats 8000000 in
set_option maxRecDepth 20000 in
theorem i_X8 {pre : List EE} (hp : pre.length + 1 < 163) : MG mX8_init 1 1 600 [.ref (pre.length + 0)] (pre ++ [.inl (8, [.inr none, .inl 0, .inl 0, .inl 0, .inl 0, .inl 0, .inl 0])]) (toEs (pre ++ tapeB pre.length)) := by
  refine MG.of (by decide) (Nat.le_of_ble_eq_true rfl) ?_
  refine q_aload_n dX8_init_0 rfl (by rfl) ?_
  refine q_objInit oi_X8 woi woc dX8_init_1 (by decide) ?_
  refine q_aload_n dX8_init_4 rfl (by rfl) ?_
  refine q_sipush (v := nI 600) dX8_init_5 (by decide) ?_
  refine p_newa (N := 600) (k9 := 1) (l' := [.inl (8, [.inr none, .inl 0, .inl 0, .inl 0, .inl 0, .inl 0, .inl 0]), .inr (.inl (600, fun _ => 0))]) rfl (by decide) rfl rfl (by omega) (Nat.le_of_ble_eq_true rfl) (Nat.le_of_ble_eq_true rfl) dX8_init_8 ?_
  refine p_put (ty := (.array .int)) (g := .inr (some (pre.length + 1))) tyX8 0 hin_8 tyX8_ok nmX8 fl_X8_9 rfl (by decide) (fun _ => ⟨rfl, rfl⟩) (by decide +kernel) (fun _ => rfl) (fun _ => rfl) dX8_init_10 rfl (Nat.le_of_ble_eq_true rfl) rfl (l' := [.inl (8, [.inr (some (pre.length + 1)), .inl 0, .inl 0, .inl 0, .inl 0, .inl 0, .inl 0]), .inr (.inl (600, fun _ => 0))]) rfl ?_
  refine q_aload_n dX8_init_13 rfl (by rfl) ?_
  refine q_iconst (v := nI 0) dX8_init_14 (by decide) ?_
  refine p_put (ty := .int) (g := .inl (nI 0)) tyX8 1 hin_8 tyX8_ok nmX8 fl_X8_15 rfl (by decide) (fun _ => ⟨rfl, rfl⟩) (by decide +kernel) (fun _ => rfl) (fun _ => rfl) dX8_init_15 rfl (Nat.le_of_ble_eq_true rfl) rfl (l' := [.inl (8, [.inr (some (pre.length + 1)), .inl (nI 0), .inl 0, .inl 0, .inl 0, .inl 0, .inl 0]), .inr (.inl (600, fun _ => 0))]) rfl ?_
  refine q_aload_n dX8_init_18 rfl (by rfl) ?_
  refine q_iconst (v := nI 0) dX8_init_19 (by decide) ?_
  refine p_put (ty := .int) (g := .inl (nI 0)) tyX8 2 hin_8 tyX8_ok nmX8 fl_X8_19 rfl (by decide) (fun _ => ⟨rfl, rfl⟩) (by decide +kernel) (fun _ => rfl) (fun _ => rfl) dX8_init_20 rfl (Nat.le_of_ble_eq_true rfl) rfl (l' := [.inl (8, [.inr (some (pre.length + 1)), .inl (nI 0), .inl (nI 0), .inl 0, .inl 0, .inl 0, .inl 0]), .inr (.inl (600, fun _ => 0))]) rfl ?_
  refine q_aload_n dX8_init_23 rfl (by rfl) ?_
  refine q_iconst (v := nI 0) dX8_init_24 (by decide) ?_
  refine p_put (ty := .int) (g := .inl (nI 0)) tyX8 3 hin_8 tyX8_ok nmX8 fl_X8_22 rfl (by decide) (fun _ => ⟨rfl, rfl⟩) (by decide +kernel) (fun _ => rfl) (fun _ => rfl) dX8_init_25 rfl (Nat.le_of_ble_eq_true rfl) rfl (l' := [.inl (8, [.inr (some (pre.length + 1)), .inl (nI 0), .inl (nI 0), .inl (nI 0), .inl 0, .inl 0, .inl 0]), .inr (.inl (600, fun _ => 0))]) rfl ?_
  refine q_aload_n dX8_init_28 rfl (by rfl) ?_
  refine q_iconst (v := nI 0) dX8_init_29 (by decide) ?_
  refine p_put (ty := .int) (g := .inl (nI 0)) tyX8 4 hin_8 tyX8_ok nmX8 fl_X8_25 rfl (by decide) (fun _ => ⟨rfl, rfl⟩) (by decide +kernel) (fun _ => rfl) (fun _ => rfl) dX8_init_30 rfl (Nat.le_of_ble_eq_true rfl) rfl (l' := [.inl (8, [.inr (some (pre.length + 1)), .inl (nI 0), .inl (nI 0), .inl (nI 0), .inl (nI 0), .inl 0, .inl 0]), .inr (.inl (600, fun _ => 0))]) rfl ?_
  refine q_aload_n dX8_init_33 rfl (by rfl) ?_
  refine q_iconst (v := -1) dX8_init_34 (by decide) ?_
  refine p_put (ty := .int) (g := .inl (-1)) tyX8 5 hin_8 tyX8_ok nmX8 fl_X8_28 rfl (by decide) (fun _ => ⟨rfl, rfl⟩) (by decide +kernel) (fun _ => rfl) (fun _ => rfl) dX8_init_35 rfl (Nat.le_of_ble_eq_true rfl) rfl (l' := [.inl (8, [.inr (some (pre.length + 1)), .inl (nI 0), .inl (nI 0), .inl (nI 0), .inl (nI 0), .inl (-1), .inl 0]), .inr (.inl (600, fun _ => 0))]) rfl ?_
  refine q_aload_n dX8_init_38 rfl (by rfl) ?_
  refine q_iconst (v := nI 0) dX8_init_39 (by decide) ?_
  refine p_put (ty := .int) (g := .inl (nI 0)) tyX8 6 hin_8 tyX8_ok nmX8 fl_X8_31 rfl (by decide) (fun _ => ⟨rfl, rfl⟩) (by decide +kernel) (fun _ => rfl) (fun _ => rfl) dX8_init_40 rfl (Nat.le_of_ble_eq_true rfl) rfl (l' := [.inl (8, [.inr (some (pre.length + 1)), .inl (nI 0), .inl (nI 0), .inl (nI 0), .inl (nI 0), .inl (-1), .inl (nI 0)]), .inr (.inl (600, fun _ => 0))]) rfl ?_
  exact q_ret rfl dX8_init_43 (Nat.le_of_ble_eq_true rfl) (Nat.le_of_ble_eq_true rfl) (fun G H _ h => ⟨rfl, h⟩)
def houseB (b : Nat) : List EE := [.inl (3, [.inl (nI 0), .inr (some (b + 1)), .inr (some (b + 2)), .inr (some (b + 3)), .inr (some (b + 4)), .inr (some (b + 5)), .inr (some (b + 6)), .inr (some (b + 7)), .inr (some (b + 8)), .inr (some (b + 9)), .inl (nI 0), .inl (nI 10), .inl (nI 9)]), .inr (.inl (5, fun _ => 0)), .inr (.inl (5, fun _ => 0)), .inr (.inl (5, fun _ => 0)), .inr (.inl (5, fun _ => 0)), .inr (.inl (5, fun _ => 0)), .inr (.inl (5, fun _ => 0)), .inr (.inl (5, fun _ => 0)), .inr (.inl (5, fun _ => 0)), .inr (.inl (60, fun _ => 0))]
set_option maxHeartbeats 8000000 in
set_option maxRecDepth 20000 in
theorem i_X3 {pre : List EE} (hp : pre.length + 9 < 163) : MG mX3_init 1 9 100 [.ref (pre.length + 0)] (pre ++ [.inl (3, [.inl 0, .inr none, .inr none, .inr none, .inr none, .inr none, .inr none, .inr none, .inr none, .inr none, .inl 0, .inl 0, .inl 0])]) (toEs (pre ++ houseB pre.length)) := by
  refine MG.of (by decide) (Nat.le_of_ble_eq_true rfl) ?_
  refine q_aload_n dX3_init_0 rfl (by rfl) ?_
  refine q_objInit oi_X3 woi woc dX3_init_1 (by decide) ?_
  refine q_aload_n dX3_init_4 rfl (by rfl) ?_
  refine q_iconst (v := nI 0) dX3_init_5 (by decide) ?_
  refine p_put (ty := .int) (g := .inl (nI 0)) tyX3 0 hin_3 tyX3_ok nmX3 fl_X3_9 rfl (by decide) (fun _ => ⟨rfl, rfl⟩) (by decide +kernel) (fun _ => rfl) (fun _ => rfl) dX3_init_6 rfl (Nat.le_of_ble_eq_true rfl) rfl (l' := [.inl (3, [.inl (nI 0), .inr none, .inr none, .inr none, .inr none, .inr none, .inr none, .inr none, .inr none, .inr none, .inl 0, .inl 0, .inl 0])]) rfl ?_
  refine q_aload_n dX3_init_9 rfl (by rfl) ?_
  refine q_iconst (v := nI 5) dX3_init_10 (by decide) ?_
  refine p_newa (N := 5) (k9 := 1) (l' := [.inl (3, [.inl (nI 0), .inr none, .inr none, .inr none, .inr none, .inr none, .inr none, .inr none, .inr none, .inr none, .inl 0, .inl 0, .inl 0]), .inr (.inl (5, fun _ => 0))]) rfl (by decide) rfl rfl (by omega) (Nat.le_of_ble_eq_true rfl) (Nat.le_of_ble_eq_true rfl) dX3_init_11 ?_
  refine p_put (ty := (.array .int)) (g := .inr (some (pre.length + 1))) tyX3 1 hin_3 tyX3_ok nmX3 fl_X3_15 rfl (by decide) (fun _ => ⟨rfl, rfl⟩) (by decide +kernel) (fun _ => rfl) (fun _ => rfl) dX3_init_13 rfl (Nat.le_of_ble_eq_true rfl) rfl (l' := [.inl (3, [.inl (nI 0), .inr (some (pre.length + 1)), .inr none, .inr none, .inr none, .inr none, .inr none, .inr none, .inr none, .inr none, .inl 0, .inl 0, .inl 0]), .inr (.inl (5, fun _ => 0))]) rfl ?_
  refine q_aload_n dX3_init_16 rfl (by rfl) ?_
  refine q_iconst (v := nI 5) dX3_init_17 (by decide) ?_
  refine p_newa (N := 5) (k9 := 2) (l' := [.inl (3, [.inl (nI 0), .inr (some (pre.length + 1)), .inr none, .inr none, .inr none, .inr none, .inr none, .inr none, .inr none, .inr none, .inl 0, .inl 0, .inl 0]), .inr (.inl (5, fun _ => 0)), .inr (.inl (5, fun _ => 0))]) rfl (by decide) rfl rfl (by omega) (Nat.le_of_ble_eq_true rfl) (Nat.le_of_ble_eq_true rfl) dX3_init_18 ?_
  refine p_put (ty := (.array .int)) (g := .inr (some (pre.length + 2))) tyX3 2 hin_3 tyX3_ok nmX3 fl_X3_19 rfl (by decide) (fun _ => ⟨rfl, rfl⟩) (by decide +kernel) (fun _ => rfl) (fun _ => rfl) dX3_init_20 rfl (Nat.le_of_ble_eq_true rfl) rfl (l' := [.inl (3, [.inl (nI 0), .inr (some (pre.length + 1)), .inr (some (pre.length + 2)), .inr none, .inr none, .inr none, .inr none, .inr none, .inr none, .inr none, .inl 0, .inl 0, .inl 0]), .inr (.inl (5, fun _ => 0)), .inr (.inl (5, fun _ => 0))]) rfl ?_
  refine q_aload_n dX3_init_23 rfl (by rfl) ?_
  refine q_iconst (v := nI 5) dX3_init_24 (by decide) ?_
  refine p_newa (N := 5) (k9 := 3) (l' := [.inl (3, [.inl (nI 0), .inr (some (pre.length + 1)), .inr (some (pre.length + 2)), .inr none, .inr none, .inr none, .inr none, .inr none, .inr none, .inr none, .inl 0, .inl 0, .inl 0]), .inr (.inl (5, fun _ => 0)), .inr (.inl (5, fun _ => 0)), .inr (.inl (5, fun _ => 0))]) rfl (by decide) rfl rfl (by omega) (Nat.le_of_ble_eq_true rfl) (Nat.le_of_ble_eq_true rfl) dX3_init_25 ?_
  refine p_put (ty := (.array .int)) (g := .inr (some (pre.length + 3))) tyX3 3 hin_3 tyX3_ok nmX3 fl_X3_22 rfl (by decide) (fun _ => ⟨rfl, rfl⟩) (by decide +kernel) (fun _ => rfl) (fun _ => rfl) dX3_init_27 rfl (Nat.le_of_ble_eq_true rfl) rfl (l' := [.inl (3, [.inl (nI 0), .inr (some (pre.length + 1)), .inr (some (pre.length + 2)), .inr (some (pre.length + 3)), .inr none, .inr none, .inr none, .inr none, .inr none, .inr none, .inl 0, .inl 0, .inl 0]), .inr (.inl (5, fun _ => 0)), .inr (.inl (5, fun _ => 0)), .inr (.inl (5, fun _ => 0))]) rfl ?_
  refine q_aload_n dX3_init_30 rfl (by rfl) ?_
  refine q_iconst (v := nI 5) dX3_init_31 (by decide) ?_
  refine p_newa (N := 5) (k9 := 4) (l' := [.inl (3, [.inl (nI 0), .inr (some (pre.length + 1)), .inr (some (pre.length + 2)), .inr (some (pre.length + 3)), .inr none, .inr none, .inr none, .inr none, .inr none, .inr none, .inl 0, .inl 0, .inl 0]), .inr (.inl (5, fun _ => 0)), .inr (.inl (5, fun _ => 0)), .inr (.inl (5, fun _ => 0)), .inr (.inl (5, fun _ => 0))]) rfl (by decide) rfl rfl (by omega) (Nat.le_of_ble_eq_true rfl) (Nat.le_of_ble_eq_true rfl) dX3_init_32 ?_
  refine p_put (ty := (.array .int)) (g := .inr (some (pre.length + 4))) tyX3 4 hin_3 tyX3_ok nmX3 fl_X3_25 rfl (by decide) (fun _ => ⟨rfl, rfl⟩) (by decide +kernel) (fun _ => rfl) (fun _ => rfl) dX3_init_34 rfl (Nat.le_of_ble_eq_true rfl) rfl (l' := [.inl (3, [.inl (nI 0), .inr (some (pre.length + 1)), .inr (some (pre.length + 2)), .inr (some (pre.length + 3)), .inr (some (pre.length + 4)), .inr none, .inr none, .inr none, .inr none, .inr none, .inl 0, .inl 0, .inl 0]), .inr (.inl (5, fun _ => 0)), .inr (.inl (5, fun _ => 0)), .inr (.inl (5, fun _ => 0)), .inr (.inl (5, fun _ => 0))]) rfl ?_
  refine q_aload_n dX3_init_37 rfl (by rfl) ?_
  refine q_iconst (v := nI 5) dX3_init_38 (by decide) ?_
  refine p_newa (N := 5) (k9 := 5) (l' := [.inl (3, [.inl (nI 0), .inr (some (pre.length + 1)), .inr (some (pre.length + 2)), .inr (some (pre.length + 3)), .inr (some (pre.length + 4)), .inr none, .inr none, .inr none, .inr none, .inr none, .inl 0, .inl 0, .inl 0]), .inr (.inl (5, fun _ => 0)), .inr (.inl (5, fun _ => 0)), .inr (.inl (5, fun _ => 0)), .inr (.inl (5, fun _ => 0)), .inr (.inl (5, fun _ => 0))]) rfl (by decide) rfl rfl (by omega) (Nat.le_of_ble_eq_true rfl) (Nat.le_of_ble_eq_true rfl) dX3_init_39 ?_
  refine p_put (ty := (.array .int)) (g := .inr (some (pre.length + 5))) tyX3 5 hin_3 tyX3_ok nmX3 fl_X3_28 rfl (by decide) (fun _ => ⟨rfl, rfl⟩) (by decide +kernel) (fun _ => rfl) (fun _ => rfl) dX3_init_41 rfl (Nat.le_of_ble_eq_true rfl) rfl (l' := [.inl (3, [.inl (nI 0), .inr (some (pre.length + 1)), .inr (some (pre.length + 2)), .inr (some (pre.length + 3)), .inr (some (pre.length + 4)), .inr (some (pre.length + 5)), .inr none, .inr none, .inr none, .inr none, .inl 0, .inl 0, .inl 0]), .inr (.inl (5, fun _ => 0)), .inr (.inl (5, fun _ => 0)), .inr (.inl (5, fun _ => 0)), .inr (.inl (5, fun _ => 0)), .inr (.inl (5, fun _ => 0))]) rfl ?_
  refine q_aload_n dX3_init_44 rfl (by rfl) ?_
  refine q_iconst (v := nI 5) dX3_init_45 (by decide) ?_
  refine p_newa (N := 5) (k9 := 6) (l' := [.inl (3, [.inl (nI 0), .inr (some (pre.length + 1)), .inr (some (pre.length + 2)), .inr (some (pre.length + 3)), .inr (some (pre.length + 4)), .inr (some (pre.length + 5)), .inr none, .inr none, .inr none, .inr none, .inl 0, .inl 0, .inl 0]), .inr (.inl (5, fun _ => 0)), .inr (.inl (5, fun _ => 0)), .inr (.inl (5, fun _ => 0)), .inr (.inl (5, fun _ => 0)), .inr (.inl (5, fun _ => 0)), .inr (.inl (5, fun _ => 0))]) rfl (by decide) rfl rfl (by omega) (Nat.le_of_ble_eq_true rfl) (Nat.le_of_ble_eq_true rfl) dX3_init_46 ?_
  refine p_put (ty := (.array .int)) (g := .inr (some (pre.length + 6))) tyX3 6 hin_3 tyX3_ok nmX3 fl_X3_31 rfl (by decide) (fun _ => ⟨rfl, rfl⟩) (by decide +kernel) (fun _ => rfl) (fun _ => rfl) dX3_init_48 rfl (Nat.le_of_ble_eq_true rfl) rfl (l' := [.inl (3, [.inl (nI 0), .inr (some (pre.length + 1)), .inr (some (pre.length + 2)), .inr (some (pre.length + 3)), .inr (some (pre.length + 4)), .inr (some (pre.length + 5)), .inr (some (pre.length + 6)), .inr none, .inr none, .inr none, .inl 0, .inl 0, .inl 0]), .inr (.inl (5, fun _ => 0)), .inr (.inl (5, fun _ => 0)), .inr (.inl (5, fun _ => 0)), .inr (.inl (5, fun _ => 0)), .inr (.inl (5, fun _ => 0)), .inr (.inl (5, fun _ => 0))]) rfl ?_
  refine q_aload_n dX3_init_51 rfl (by rfl) ?_
  refine q_iconst (v := nI 5) dX3_init_52 (by decide) ?_
  refine p_newa (N := 5) (k9 := 7) (l' := [.inl (3, [.inl (nI 0), .inr (some (pre.length + 1)), .inr (some (pre.length + 2)), .inr (some (pre.length + 3)), .inr (some (pre.length + 4)), .inr (some (pre.length + 5)), .inr (some (pre.length + 6)), .inr none, .inr none, .inr none, .inl 0, .inl 0, .inl 0]), .inr (.inl (5, fun _ => 0)), .inr (.inl (5, fun _ => 0)), .inr (.inl (5, fun _ => 0)), .inr (.inl (5, fun _ => 0)), .inr (.inl (5, fun _ => 0)), .inr (.inl (5, fun _ => 0)), .inr (.inl (5, fun _ => 0))]) rfl (by decide) rfl rfl (by omega) (Nat.le_of_ble_eq_true rfl) (Nat.le_of_ble_eq_true rfl) dX3_init_53 ?_
  refine p_put (ty := (.array .int)) (g := .inr (some (pre.length + 7))) tyX3 7 hin_3 tyX3_ok nmX3 fl_X3_34 rfl (by decide) (fun _ => ⟨rfl, rfl⟩) (by decide +kernel) (fun _ => rfl) (fun _ => rfl) dX3_init_55 rfl (Nat.le_of_ble_eq_true rfl) rfl (l' := [.inl (3, [.inl (nI 0), .inr (some (pre.length + 1)), .inr (some (pre.length + 2)), .inr (some (pre.length + 3)), .inr (some (pre.length + 4)), .inr (some (pre.length + 5)), .inr (some (pre.length + 6)), .inr (some (pre.length + 7)), .inr none, .inr none, .inl 0, .inl 0, .inl 0]), .inr (.inl (5, fun _ => 0)), .inr (.inl (5, fun _ => 0)), .inr (.inl (5, fun _ => 0)), .inr (.inl (5, fun _ => 0)), .inr (.inl (5, fun _ => 0)), .inr (.inl (5, fun _ => 0)), .inr (.inl (5, fun _ => 0))]) rfl ?_
  refine q_aload_n dX3_init_58 rfl (by rfl) ?_
  refine q_iconst (v := nI 5) dX3_init_59 (by decide) ?_
  refine p_newa (N := 5) (k9 := 8) (l' := [.inl (3, [.inl (nI 0), .inr (some (pre.length + 1)), .inr (some (pre.length + 2)), .inr (some (pre.length + 3)), .inr (some (pre.length + 4)), .inr (some (pre.length + 5)), .inr (some (pre.length + 6)), .inr (some (pre.length + 7)), .inr none, .inr none, .inl 0, .inl 0, .inl 0]), .inr (.inl (5, fun _ => 0)), .inr (.inl (5, fun _ => 0)), .inr (.inl (5, fun _ => 0)), .inr (.inl (5, fun _ => 0)), .inr (.inl (5, fun _ => 0)), .inr (.inl (5, fun _ => 0)), .inr (.inl (5, fun _ => 0)), .inr (.inl (5, fun _ => 0))]) rfl (by decide) rfl rfl (by omega) (Nat.le_of_ble_eq_true rfl) (Nat.le_of_ble_eq_true rfl) dX3_init_60 ?_
  refine p_put (ty := (.array .int)) (g := .inr (some (pre.length + 8))) tyX3 8 hin_3 tyX3_ok nmX3 fl_X3_37 rfl (by decide) (fun _ => ⟨rfl, rfl⟩) (by decide +kernel) (fun _ => rfl) (fun _ => rfl) dX3_init_62 rfl (Nat.le_of_ble_eq_true rfl) rfl (l' := [.inl (3, [.inl (nI 0), .inr (some (pre.length + 1)), .inr (some (pre.length + 2)), .inr (some (pre.length + 3)), .inr (some (pre.length + 4)), .inr (some (pre.length + 5)), .inr (some (pre.length + 6)), .inr (some (pre.length + 7)), .inr (some (pre.length + 8)), .inr none, .inl 0, .inl 0, .inl 0]), .inr (.inl (5, fun _ => 0)), .inr (.inl (5, fun _ => 0)), .inr (.inl (5, fun _ => 0)), .inr (.inl (5, fun _ => 0)), .inr (.inl (5, fun _ => 0)), .inr (.inl (5, fun _ => 0)), .inr (.inl (5, fun _ => 0)), .inr (.inl (5, fun _ => 0))]) rfl ?_
  refine q_aload_n dX3_init_65 rfl (by rfl) ?_
  refine q_bipush (v := nI 60) dX3_init_66 (by decide) ?_
  refine p_newa (N := 60) (k9 := 9) (l' := [.inl (3, [.inl (nI 0), .inr (some (pre.length + 1)), .inr (some (pre.length + 2)), .inr (some (pre.length + 3)), .inr (some (pre.length + 4)), .inr (some (pre.length + 5)), .inr (some (pre.length + 6)), .inr (some (pre.length + 7)), .inr (some (pre.length + 8)), .inr none, .inl 0, .inl 0, .inl 0]), .inr (.inl (5, fun _ => 0)), .inr (.inl (5, fun _ => 0)), .inr (.inl (5, fun _ => 0)), .inr (.inl (5, fun _ => 0)), .inr (.inl (5, fun _ => 0)), .inr (.inl (5, fun _ => 0)), .inr (.inl (5, fun _ => 0)), .inr (.inl (5, fun _ => 0)), .inr (.inl (60, fun _ => 0))]) rfl (by decide) rfl rfl (by omega) (Nat.le_of_ble_eq_true rfl) (Nat.le_of_ble_eq_true rfl) dX3_init_68 ?_
  refine p_put (ty := (.array .int)) (g := .inr (some (pre.length + 9))) tyX3 9 hin_3 tyX3_ok nmX3 fl_X3_40 rfl (by decide) (fun _ => ⟨rfl, rfl⟩) (by decide +kernel) (fun _ => rfl) (fun _ => rfl) dX3_init_70 rfl (Nat.le_of_ble_eq_true rfl) rfl (l' := [.inl (3, [.inl (nI 0), .inr (some (pre.length + 1)), .inr (some (pre.length + 2)), .inr (some (pre.length + 3)), .inr (some (pre.length + 4)), .inr (some (pre.length + 5)), .inr (some (pre.length + 6)), .inr (some (pre.length + 7)), .inr (some (pre.length + 8)), .inr (some (pre.length + 9)), .inl 0, .inl 0, .inl 0]), .inr (.inl (5, fun _ => 0)), .inr (.inl (5, fun _ => 0)), .inr (.inl (5, fun _ => 0)), .inr (.inl (5, fun _ => 0)), .inr (.inl (5, fun _ => 0)), .inr (.inl (5, fun _ => 0)), .inr (.inl (5, fun _ => 0)), .inr (.inl (5, fun _ => 0)), .inr (.inl (60, fun _ => 0))]) rfl ?_
  refine q_aload_n dX3_init_73 rfl (by rfl) ?_
  refine q_iconst (v := nI 0) dX3_init_74 (by decide) ?_
  refine p_put (ty := .int) (g := .inl (nI 0)) tyX3 10 hin_3 tyX3_ok nmX3 fl_X3_43 rfl (by decide) (fun _ => ⟨rfl, rfl⟩) (by decide +kernel) (fun _ => rfl) (fun _ => rfl) dX3_init_75 rfl (Nat.le_of_ble_eq_true rfl) rfl (l' := [.inl (3, [.inl (nI 0), .inr (some (pre.length + 1)), .inr (some (pre.length + 2)), .inr (some (pre.length + 3)), .inr (some (pre.length + 4)), .inr (some (pre.length + 5)), .inr (some (pre.length + 6)), .inr (some (pre.length + 7)), .inr (some (pre.length + 8)), .inr (some (pre.length + 9)), .inl (nI 0), .inl 0, .inl 0]), .inr (.inl (5, fun _ => 0)), .inr (.inl (5, fun _ => 0)), .inr (.inl (5, fun _ => 0)), .inr (.inl (5, fun _ => 0)), .inr (.inl (5, fun _ => 0)), .inr (.inl (5, fun _ => 0)), .inr (.inl (5, fun _ => 0)), .inr (.inl (5, fun _ => 0)), .inr (.inl (60, fun _ => 0))]) rfl ?_
  refine q_aload_n dX3_init_78 rfl (by rfl) ?_
  refine q_bipush (v := nI 10) dX3_init_79 (by decide) ?_
  refine p_put (ty := .int) (g := .inl (nI 10)) tyX3 11 hin_3 tyX3_ok nmX3 fl_X3_46 rfl (by decide) (fun _ => ⟨rfl, rfl⟩) (by decide +kernel) (fun _ => rfl) (fun _ => rfl) dX3_init_81 rfl (Nat.le_of_ble_eq_true rfl) rfl (l' := [.inl (3, [.inl (nI 0), .inr (some (pre.length + 1)), .inr (some (pre.length + 2)), .inr (some (pre.length + 3)), .inr (some (pre.length + 4)), .inr (some (pre.length + 5)), .inr (some (pre.length + 6)), .inr (some (pre.length + 7)), .inr (some (pre.length + 8)), .inr (some (pre.length + 9)), .inl (nI 0), .inl (nI 10), .inl 0]), .inr (.inl (5, fun _ => 0)), .inr (.inl (5, fun _ => 0)), .inr (.inl (5, fun _ => 0)), .inr (.inl (5, fun _ => 0)), .inr (.inl (5, fun _ => 0)), .inr (.inl (5, fun _ => 0)), .inr (.inl (5, fun _ => 0)), .inr (.inl (5, fun _ => 0)), .inr (.inl (60, fun _ => 0))]) rfl ?_
  refine q_aload_n dX3_init_84 rfl (by rfl) ?_
  refine q_bipush (v := nI 9) dX3_init_85 (by decide) ?_
  refine p_put (ty := .int) (g := .inl (nI 9)) tyX3 12 hin_3 tyX3_ok nmX3 fl_X3_49 rfl (by decide) (fun _ => ⟨rfl, rfl⟩) (by decide +kernel) (fun _ => rfl) (fun _ => rfl) dX3_init_87 rfl (Nat.le_of_ble_eq_true rfl) rfl (l' := [.inl (3, [.inl (nI 0), .inr (some (pre.length + 1)), .inr (some (pre.length + 2)), .inr (some (pre.length + 3)), .inr (some (pre.length + 4)), .inr (some (pre.length + 5)), .inr (some (pre.length + 6)), .inr (some (pre.length + 7)), .inr (some (pre.length + 8)), .inr (some (pre.length + 9)), .inl (nI 0), .inl (nI 10), .inl (nI 9)]), .inr (.inl (5, fun _ => 0)), .inr (.inl (5, fun _ => 0)), .inr (.inl (5, fun _ => 0)), .inr (.inl (5, fun _ => 0)), .inr (.inl (5, fun _ => 0)), .inr (.inl (5, fun _ => 0)), .inr (.inl (5, fun _ => 0)), .inr (.inl (5, fun _ => 0)), .inr (.inl (60, fun _ => 0))]) rfl ?_
  exact q_ret rfl dX3_init_90 (Nat.le_of_ble_eq_true rfl) (Nat.le_of_ble_eq_true rfl) (fun G H _ h => ⟨rfl, h⟩)
def lawB (b : Nat) : List EE := [.inl (5, [.inr (some (b + 1)), .inl (nI 0), .inr (some (b + 2))]), .inr (.inl (150, fun _ => 0)), .inr (.inl (32, fun _ => 0))]
set_option maxHeartbeats 8000000 in
set_option maxRecDepth 20000 in
theorem i_X5 {pre : List EE} (hp : pre.length + 2 < 163) : MG mX5_init 1 2 182 [.ref (pre.length + 0)] (pre ++ [.inl (5, [.inr none, .inl 0, .inr none])]) (toEs (pre ++ lawB pre.length)) := by
  refine MG.of (by decide) (Nat.le_of_ble_eq_true rfl) ?_
  refine q_aload_n dX5_init_0 rfl (by rfl) ?_
  refine q_objInit oi_X5 woi woc dX5_init_1 (by decide) ?_
  refine q_aload_n dX5_init_4 rfl (by rfl) ?_
  refine q_sipush (v := nI 150) dX5_init_5 (by decide) ?_
  refine p_newa (N := 150) (k9 := 1) (l' := [.inl (5, [.inr none, .inl 0, .inr none]), .inr (.inl (150, fun _ => 0))]) rfl (by decide) rfl rfl (by omega) (Nat.le_of_ble_eq_true rfl) (Nat.le_of_ble_eq_true rfl) dX5_init_8 ?_
  refine p_put (ty := (.array .int)) (g := .inr (some (pre.length + 1))) tyX5 0 hin_5 tyX5_ok nmX5 fl_X5_9 rfl (by decide) (fun _ => ⟨rfl, rfl⟩) (by decide +kernel) (fun _ => rfl) (fun _ => rfl) dX5_init_10 rfl (Nat.le_of_ble_eq_true rfl) rfl (l' := [.inl (5, [.inr (some (pre.length + 1)), .inl 0, .inr none]), .inr (.inl (150, fun _ => 0))]) rfl ?_
  refine q_aload_n dX5_init_13 rfl (by rfl) ?_
  refine q_iconst (v := nI 0) dX5_init_14 (by decide) ?_
  refine p_put (ty := .int) (g := .inl (nI 0)) tyX5 1 hin_5 tyX5_ok nmX5 fl_X5_15 rfl (by decide) (fun _ => ⟨rfl, rfl⟩) (by decide +kernel) (fun _ => rfl) (fun _ => rfl) dX5_init_15 rfl (Nat.le_of_ble_eq_true rfl) rfl (l' := [.inl (5, [.inr (some (pre.length + 1)), .inl (nI 0), .inr none]), .inr (.inl (150, fun _ => 0))]) rfl ?_
  refine q_aload_n dX5_init_18 rfl (by rfl) ?_
  refine q_bipush (v := nI 32) dX5_init_19 (by decide) ?_
  refine p_newa (N := 32) (k9 := 2) (l' := [.inl (5, [.inr (some (pre.length + 1)), .inl (nI 0), .inr none]), .inr (.inl (150, fun _ => 0)), .inr (.inl (32, fun _ => 0))]) rfl (by decide) rfl rfl (by omega) (Nat.le_of_ble_eq_true rfl) (Nat.le_of_ble_eq_true rfl) dX5_init_21 ?_
  refine p_put (ty := (.array .int)) (g := .inr (some (pre.length + 2))) tyX5 2 hin_5 tyX5_ok nmX5 fl_X5_19 rfl (by decide) (fun _ => ⟨rfl, rfl⟩) (by decide +kernel) (fun _ => rfl) (fun _ => rfl) dX5_init_23 rfl (Nat.le_of_ble_eq_true rfl) rfl (l' := [.inl (5, [.inr (some (pre.length + 1)), .inl (nI 0), .inr (some (pre.length + 2))]), .inr (.inl (150, fun _ => 0)), .inr (.inl (32, fun _ => 0))]) rfl ?_
  exact q_ret rfl dX5_init_26 (Nat.le_of_ble_eq_true rfl) (Nat.le_of_ble_eq_true rfl) (fun G H _ h => ⟨rfl, h⟩)
def bookB (b : Nat) : List EE := [.inl (1, [.inr (some (b + 1)), .inr (some (b + 2)), .inl (nI 0)]), .inr (.inl (8, fun _ => 0)), .inr (.inl (8, fun _ => 0))]
set_option maxHeartbeats 8000000 in
set_option maxRecDepth 20000 in
theorem i_X1 {pre : List EE} (hp : pre.length + 2 < 163) : MG mX1_init 1 2 16 [.ref (pre.length + 0)] (pre ++ [.inl (1, [.inr none, .inr none, .inl 0])]) (toEs (pre ++ bookB pre.length)) := by
  refine MG.of (by decide) (Nat.le_of_ble_eq_true rfl) ?_
  refine q_aload_n dX1_init_0 rfl (by rfl) ?_
  refine q_objInit oi_X1 woi woc dX1_init_1 (by decide) ?_
  refine q_aload_n dX1_init_4 rfl (by rfl) ?_
  refine q_bipush (v := nI 8) dX1_init_5 (by decide) ?_
  refine p_newa (N := 8) (k9 := 1) (l' := [.inl (1, [.inr none, .inr none, .inl 0]), .inr (.inl (8, fun _ => 0))]) rfl (by decide) rfl rfl (by omega) (Nat.le_of_ble_eq_true rfl) (Nat.le_of_ble_eq_true rfl) dX1_init_7 ?_
  refine p_put (ty := (.array .int)) (g := .inr (some (pre.length + 1))) tyX1 0 hin_1 tyX1_ok nmX1 fl_X1_11 rfl (by decide) (fun _ => ⟨rfl, rfl⟩) (by decide +kernel) (fun _ => rfl) (fun _ => rfl) dX1_init_9 rfl (Nat.le_of_ble_eq_true rfl) rfl (l' := [.inl (1, [.inr (some (pre.length + 1)), .inr none, .inl 0]), .inr (.inl (8, fun _ => 0))]) rfl ?_
  refine q_aload_n dX1_init_12 rfl (by rfl) ?_
  refine q_bipush (v := nI 8) dX1_init_13 (by decide) ?_
  refine p_newa (N := 8) (k9 := 2) (l' := [.inl (1, [.inr (some (pre.length + 1)), .inr none, .inl 0]), .inr (.inl (8, fun _ => 0)), .inr (.inl (8, fun _ => 0))]) rfl (by decide) rfl rfl (by omega) (Nat.le_of_ble_eq_true rfl) (Nat.le_of_ble_eq_true rfl) dX1_init_15 ?_
  refine p_put (ty := (.array .int)) (g := .inr (some (pre.length + 2))) tyX1 1 hin_1 tyX1_ok nmX1 fl_X1_15 rfl (by decide) (fun _ => ⟨rfl, rfl⟩) (by decide +kernel) (fun _ => rfl) (fun _ => rfl) dX1_init_17 rfl (Nat.le_of_ble_eq_true rfl) rfl (l' := [.inl (1, [.inr (some (pre.length + 1)), .inr (some (pre.length + 2)), .inl 0]), .inr (.inl (8, fun _ => 0)), .inr (.inl (8, fun _ => 0))]) rfl ?_
  refine q_aload_n dX1_init_20 rfl (by rfl) ?_
  refine q_iconst (v := nI 0) dX1_init_21 (by decide) ?_
  refine p_put (ty := .int) (g := .inl (nI 0)) tyX1 2 hin_1 tyX1_ok nmX1 fl_X1_18 rfl (by decide) (fun _ => ⟨rfl, rfl⟩) (by decide +kernel) (fun _ => rfl) (fun _ => rfl) dX1_init_22 rfl (Nat.le_of_ble_eq_true rfl) rfl (l' := [.inl (1, [.inr (some (pre.length + 1)), .inr (some (pre.length + 2)), .inl (nI 0)]), .inr (.inl (8, fun _ => 0)), .inr (.inl (8, fun _ => 0))]) rfl ?_
  exact q_ret rfl dX1_init_25 (Nat.le_of_ble_eq_true rfl) (Nat.le_of_ble_eq_true rfl) (fun G H _ h => ⟨rfl, h⟩)
def planB (b : Nat) : List EE := [.inl (7, [.inr (some (b + 1)), .inr (some (b + 2)), .inr (some (b + 3)), .inl (nI 0), .inl (nI 0), .inl (nI 0), .inl (nI 0)]), .inr (.inl (150, fun _ => 0)), .inr (.inl (150, fun _ => 0)), .inr (.inl (150, fun _ => 0))]
set_option maxHeartbeats 8000000 in
set_option maxRecDepth 20000 in
theorem i_X7 {pre : List EE} (hp : pre.length + 3 < 163) : MG mX7_init 1 3 450 [.ref (pre.length + 0)] (pre ++ [.inl (7, [.inr none, .inr none, .inr none, .inl 0, .inl 0, .inl 0, .inl 0])]) (toEs (pre ++ planB pre.length)) := by
  refine MG.of (by decide) (Nat.le_of_ble_eq_true rfl) ?_
  refine q_aload_n dX7_init_0 rfl (by rfl) ?_
  refine q_objInit oi_X7 woi woc dX7_init_1 (by decide) ?_
  refine q_aload_n dX7_init_4 rfl (by rfl) ?_
  refine q_sipush (v := nI 150) dX7_init_5 (by decide) ?_
  refine p_newa (N := 150) (k9 := 1) (l' := [.inl (7, [.inr none, .inr none, .inr none, .inl 0, .inl 0, .inl 0, .inl 0]), .inr (.inl (150, fun _ => 0))]) rfl (by decide) rfl rfl (by omega) (Nat.le_of_ble_eq_true rfl) (Nat.le_of_ble_eq_true rfl) dX7_init_8 ?_
  refine p_put (ty := (.array .int)) (g := .inr (some (pre.length + 1))) tyX7 0 hin_7 tyX7_ok nmX7 fl_X7_9 rfl (by decide) (fun _ => ⟨rfl, rfl⟩) (by decide +kernel) (fun _ => rfl) (fun _ => rfl) dX7_init_10 rfl (Nat.le_of_ble_eq_true rfl) rfl (l' := [.inl (7, [.inr (some (pre.length + 1)), .inr none, .inr none, .inl 0, .inl 0, .inl 0, .inl 0]), .inr (.inl (150, fun _ => 0))]) rfl ?_
  refine q_aload_n dX7_init_13 rfl (by rfl) ?_
  refine q_sipush (v := nI 150) dX7_init_14 (by decide) ?_
  refine p_newa (N := 150) (k9 := 2) (l' := [.inl (7, [.inr (some (pre.length + 1)), .inr none, .inr none, .inl 0, .inl 0, .inl 0, .inl 0]), .inr (.inl (150, fun _ => 0)), .inr (.inl (150, fun _ => 0))]) rfl (by decide) rfl rfl (by omega) (Nat.le_of_ble_eq_true rfl) (Nat.le_of_ble_eq_true rfl) dX7_init_17 ?_
  refine p_put (ty := (.array .int)) (g := .inr (some (pre.length + 2))) tyX7 1 hin_7 tyX7_ok nmX7 fl_X7_15 rfl (by decide) (fun _ => ⟨rfl, rfl⟩) (by decide +kernel) (fun _ => rfl) (fun _ => rfl) dX7_init_19 rfl (Nat.le_of_ble_eq_true rfl) rfl (l' := [.inl (7, [.inr (some (pre.length + 1)), .inr (some (pre.length + 2)), .inr none, .inl 0, .inl 0, .inl 0, .inl 0]), .inr (.inl (150, fun _ => 0)), .inr (.inl (150, fun _ => 0))]) rfl ?_
  refine q_aload_n dX7_init_22 rfl (by rfl) ?_
  refine q_sipush (v := nI 150) dX7_init_23 (by decide) ?_
  refine p_newa (N := 150) (k9 := 3) (l' := [.inl (7, [.inr (some (pre.length + 1)), .inr (some (pre.length + 2)), .inr none, .inl 0, .inl 0, .inl 0, .inl 0]), .inr (.inl (150, fun _ => 0)), .inr (.inl (150, fun _ => 0)), .inr (.inl (150, fun _ => 0))]) rfl (by decide) rfl rfl (by omega) (Nat.le_of_ble_eq_true rfl) (Nat.le_of_ble_eq_true rfl) dX7_init_26 ?_
  refine p_put (ty := (.array .int)) (g := .inr (some (pre.length + 3))) tyX7 2 hin_7 tyX7_ok nmX7 fl_X7_18 rfl (by decide) (fun _ => ⟨rfl, rfl⟩) (by decide +kernel) (fun _ => rfl) (fun _ => rfl) dX7_init_28 rfl (Nat.le_of_ble_eq_true rfl) rfl (l' := [.inl (7, [.inr (some (pre.length + 1)), .inr (some (pre.length + 2)), .inr (some (pre.length + 3)), .inl 0, .inl 0, .inl 0, .inl 0]), .inr (.inl (150, fun _ => 0)), .inr (.inl (150, fun _ => 0)), .inr (.inl (150, fun _ => 0))]) rfl ?_
  refine q_aload_n dX7_init_31 rfl (by rfl) ?_
  refine q_iconst (v := nI 0) dX7_init_32 (by decide) ?_
  refine p_put (ty := .int) (g := .inl (nI 0)) tyX7 3 hin_7 tyX7_ok nmX7 fl_X7_21 rfl (by decide) (fun _ => ⟨rfl, rfl⟩) (by decide +kernel) (fun _ => rfl) (fun _ => rfl) dX7_init_33 rfl (Nat.le_of_ble_eq_true rfl) rfl (l' := [.inl (7, [.inr (some (pre.length + 1)), .inr (some (pre.length + 2)), .inr (some (pre.length + 3)), .inl (nI 0), .inl 0, .inl 0, .inl 0]), .inr (.inl (150, fun _ => 0)), .inr (.inl (150, fun _ => 0)), .inr (.inl (150, fun _ => 0))]) rfl ?_
  refine q_aload_n dX7_init_36 rfl (by rfl) ?_
  refine q_iconst (v := nI 0) dX7_init_37 (by decide) ?_
  refine p_put (ty := .int) (g := .inl (nI 0)) tyX7 4 hin_7 tyX7_ok nmX7 fl_X7_25 rfl (by decide) (fun _ => ⟨rfl, rfl⟩) (by decide +kernel) (fun _ => rfl) (fun _ => rfl) dX7_init_38 rfl (Nat.le_of_ble_eq_true rfl) rfl (l' := [.inl (7, [.inr (some (pre.length + 1)), .inr (some (pre.length + 2)), .inr (some (pre.length + 3)), .inl (nI 0), .inl (nI 0), .inl 0, .inl 0]), .inr (.inl (150, fun _ => 0)), .inr (.inl (150, fun _ => 0)), .inr (.inl (150, fun _ => 0))]) rfl ?_
  refine q_aload_n dX7_init_41 rfl (by rfl) ?_
  refine q_iconst (v := nI 0) dX7_init_42 (by decide) ?_
  refine p_put (ty := .int) (g := .inl (nI 0)) tyX7 5 hin_7 tyX7_ok nmX7 fl_X7_28 rfl (by decide) (fun _ => ⟨rfl, rfl⟩) (by decide +kernel) (fun _ => rfl) (fun _ => rfl) dX7_init_43 rfl (Nat.le_of_ble_eq_true rfl) rfl (l' := [.inl (7, [.inr (some (pre.length + 1)), .inr (some (pre.length + 2)), .inr (some (pre.length + 3)), .inl (nI 0), .inl (nI 0), .inl (nI 0), .inl 0]), .inr (.inl (150, fun _ => 0)), .inr (.inl (150, fun _ => 0)), .inr (.inl (150, fun _ => 0))]) rfl ?_
  refine q_aload_n dX7_init_46 rfl (by rfl) ?_
  refine q_iconst (v := nI 0) dX7_init_47 (by decide) ?_
  refine p_put (ty := .int) (g := .inl (nI 0)) tyX7 6 hin_7 tyX7_ok nmX7 fl_X7_31 rfl (by decide) (fun _ => ⟨rfl, rfl⟩) (by decide +kernel) (fun _ => rfl) (fun _ => rfl) dX7_init_48 rfl (Nat.le_of_ble_eq_true rfl) rfl (l' := [.inl (7, [.inr (some (pre.length + 1)), .inr (some (pre.length + 2)), .inr (some (pre.length + 3)), .inl (nI 0), .inl (nI 0), .inl (nI 0), .inl (nI 0)]), .inr (.inl (150, fun _ => 0)), .inr (.inl (150, fun _ => 0)), .inr (.inl (150, fun _ => 0))]) rfl ?_
  exact q_ret rfl dX7_init_51 (Nat.le_of_ble_eq_true rfl) (Nat.le_of_ble_eq_true rfl) (fun G H _ h => ⟨rfl, h⟩)
def nightB (h9 w9 b : Nat) : List EE := [.inl (6, [.inr (some h9), .inr (some w9), .inr (some (b + 1)), .inr (some (b + 2)), .inr (some (b + 3)), .inr (some (b + 4)), .inr (some (b + 5)), .inl (nI 0), .inl (nI 0)]), .inr (.inl (42, fun _ => 0)), .inr (.inl (5, fun _ => 0)), .inr (.inl (5, fun _ => 0)), .inr (.inl (5, fun _ => 0)), .inr (.inl (9, fun _ => 0))]
set_option maxHeartbeats 8000000 in
set_option maxRecDepth 20000 in
theorem i_X6 {pre : List EE} {h9 w9 : Nat} (hp : pre.length + 5 < 163) : MG mX6_init 1 5 66 [.ref (pre.length + 0), .ref h9, .ref w9] (pre ++ [.inl (6, [.inr none, .inr none, .inr none, .inr none, .inr none, .inr none, .inr none, .inl 0, .inl 0])]) (toEs (pre ++ nightB h9 w9 pre.length)) := by
  refine MG.of (by decide) (Nat.le_of_ble_eq_true rfl) ?_
  refine q_aload_n dX6_init_0 rfl (by rfl) ?_
  refine q_objInit oi_X6 woi woc dX6_init_1 (by decide) ?_
  refine q_aload_n dX6_init_4 rfl (by rfl) ?_
  refine q_bipush (v := nI 42) dX6_init_5 (by decide) ?_
  refine p_newa (N := 42) (k9 := 1) (l' := [.inl (6, [.inr none, .inr none, .inr none, .inr none, .inr none, .inr none, .inr none, .inl 0, .inl 0]), .inr (.inl (42, fun _ => 0))]) rfl (by decide) rfl rfl (by omega) (Nat.le_of_ble_eq_true rfl) (Nat.le_of_ble_eq_true rfl) dX6_init_7 ?_
  refine p_put (ty := (.array .int)) (g := .inr (some (pre.length + 1))) tyX6 2 hin_6 tyX6_ok nmX6 fl_X6_11 rfl (by decide) (fun _ => ⟨rfl, rfl⟩) (by decide +kernel) (fun _ => rfl) (fun _ => rfl) dX6_init_9 rfl (Nat.le_of_ble_eq_true rfl) rfl (l' := [.inl (6, [.inr none, .inr none, .inr (some (pre.length + 1)), .inr none, .inr none, .inr none, .inr none, .inl 0, .inl 0]), .inr (.inl (42, fun _ => 0))]) rfl ?_
  refine q_aload_n dX6_init_12 rfl (by rfl) ?_
  refine q_iconst (v := nI 5) dX6_init_13 (by decide) ?_
  refine p_newa (N := 5) (k9 := 2) (l' := [.inl (6, [.inr none, .inr none, .inr (some (pre.length + 1)), .inr none, .inr none, .inr none, .inr none, .inl 0, .inl 0]), .inr (.inl (42, fun _ => 0)), .inr (.inl (5, fun _ => 0))]) rfl (by decide) rfl rfl (by omega) (Nat.le_of_ble_eq_true rfl) (Nat.le_of_ble_eq_true rfl) dX6_init_14 ?_
  refine p_put (ty := (.array .int)) (g := .inr (some (pre.length + 2))) tyX6 3 hin_6 tyX6_ok nmX6 fl_X6_15 rfl (by decide) (fun _ => ⟨rfl, rfl⟩) (by decide +kernel) (fun _ => rfl) (fun _ => rfl) dX6_init_16 rfl (Nat.le_of_ble_eq_true rfl) rfl (l' := [.inl (6, [.inr none, .inr none, .inr (some (pre.length + 1)), .inr (some (pre.length + 2)), .inr none, .inr none, .inr none, .inl 0, .inl 0]), .inr (.inl (42, fun _ => 0)), .inr (.inl (5, fun _ => 0))]) rfl ?_
  refine q_aload_n dX6_init_19 rfl (by rfl) ?_
  refine q_iconst (v := nI 5) dX6_init_20 (by decide) ?_
  refine p_newa (N := 5) (k9 := 3) (l' := [.inl (6, [.inr none, .inr none, .inr (some (pre.length + 1)), .inr (some (pre.length + 2)), .inr none, .inr none, .inr none, .inl 0, .inl 0]), .inr (.inl (42, fun _ => 0)), .inr (.inl (5, fun _ => 0)), .inr (.inl (5, fun _ => 0))]) rfl (by decide) rfl rfl (by omega) (Nat.le_of_ble_eq_true rfl) (Nat.le_of_ble_eq_true rfl) dX6_init_21 ?_
  refine p_put (ty := (.array .int)) (g := .inr (some (pre.length + 3))) tyX6 4 hin_6 tyX6_ok nmX6 fl_X6_18 rfl (by decide) (fun _ => ⟨rfl, rfl⟩) (by decide +kernel) (fun _ => rfl) (fun _ => rfl) dX6_init_23 rfl (Nat.le_of_ble_eq_true rfl) rfl (l' := [.inl (6, [.inr none, .inr none, .inr (some (pre.length + 1)), .inr (some (pre.length + 2)), .inr (some (pre.length + 3)), .inr none, .inr none, .inl 0, .inl 0]), .inr (.inl (42, fun _ => 0)), .inr (.inl (5, fun _ => 0)), .inr (.inl (5, fun _ => 0))]) rfl ?_
  refine q_aload_n dX6_init_26 rfl (by rfl) ?_
  refine q_iconst (v := nI 5) dX6_init_27 (by decide) ?_
  refine p_newa (N := 5) (k9 := 4) (l' := [.inl (6, [.inr none, .inr none, .inr (some (pre.length + 1)), .inr (some (pre.length + 2)), .inr (some (pre.length + 3)), .inr none, .inr none, .inl 0, .inl 0]), .inr (.inl (42, fun _ => 0)), .inr (.inl (5, fun _ => 0)), .inr (.inl (5, fun _ => 0)), .inr (.inl (5, fun _ => 0))]) rfl (by decide) rfl rfl (by omega) (Nat.le_of_ble_eq_true rfl) (Nat.le_of_ble_eq_true rfl) dX6_init_28 ?_
  refine p_put (ty := (.array .int)) (g := .inr (some (pre.length + 4))) tyX6 5 hin_6 tyX6_ok nmX6 fl_X6_21 rfl (by decide) (fun _ => ⟨rfl, rfl⟩) (by decide +kernel) (fun _ => rfl) (fun _ => rfl) dX6_init_30 rfl (Nat.le_of_ble_eq_true rfl) rfl (l' := [.inl (6, [.inr none, .inr none, .inr (some (pre.length + 1)), .inr (some (pre.length + 2)), .inr (some (pre.length + 3)), .inr (some (pre.length + 4)), .inr none, .inl 0, .inl 0]), .inr (.inl (42, fun _ => 0)), .inr (.inl (5, fun _ => 0)), .inr (.inl (5, fun _ => 0)), .inr (.inl (5, fun _ => 0))]) rfl ?_
  refine q_aload_n dX6_init_33 rfl (by rfl) ?_
  refine q_bipush (v := nI 9) dX6_init_34 (by decide) ?_
  refine p_newa (N := 9) (k9 := 5) (l' := [.inl (6, [.inr none, .inr none, .inr (some (pre.length + 1)), .inr (some (pre.length + 2)), .inr (some (pre.length + 3)), .inr (some (pre.length + 4)), .inr none, .inl 0, .inl 0]), .inr (.inl (42, fun _ => 0)), .inr (.inl (5, fun _ => 0)), .inr (.inl (5, fun _ => 0)), .inr (.inl (5, fun _ => 0)), .inr (.inl (9, fun _ => 0))]) rfl (by decide) rfl rfl (by omega) (Nat.le_of_ble_eq_true rfl) (Nat.le_of_ble_eq_true rfl) dX6_init_36 ?_
  refine p_put (ty := (.array .int)) (g := .inr (some (pre.length + 5))) tyX6 6 hin_6 tyX6_ok nmX6 fl_X6_26 rfl (by decide) (fun _ => ⟨rfl, rfl⟩) (by decide +kernel) (fun _ => rfl) (fun _ => rfl) dX6_init_38 rfl (Nat.le_of_ble_eq_true rfl) rfl (l' := [.inl (6, [.inr none, .inr none, .inr (some (pre.length + 1)), .inr (some (pre.length + 2)), .inr (some (pre.length + 3)), .inr (some (pre.length + 4)), .inr (some (pre.length + 5)), .inl 0, .inl 0]), .inr (.inl (42, fun _ => 0)), .inr (.inl (5, fun _ => 0)), .inr (.inl (5, fun _ => 0)), .inr (.inl (5, fun _ => 0)), .inr (.inl (9, fun _ => 0))]) rfl ?_
  refine q_aload_n dX6_init_41 rfl (by rfl) ?_
  refine q_iconst (v := nI 0) dX6_init_42 (by decide) ?_
  refine p_put (ty := .int) (g := .inl (nI 0)) tyX6 7 hin_6 tyX6_ok nmX6 fl_X6_29 rfl (by decide) (fun _ => ⟨rfl, rfl⟩) (by decide +kernel) (fun _ => rfl) (fun _ => rfl) dX6_init_43 rfl (Nat.le_of_ble_eq_true rfl) rfl (l' := [.inl (6, [.inr none, .inr none, .inr (some (pre.length + 1)), .inr (some (pre.length + 2)), .inr (some (pre.length + 3)), .inr (some (pre.length + 4)), .inr (some (pre.length + 5)), .inl (nI 0), .inl 0]), .inr (.inl (42, fun _ => 0)), .inr (.inl (5, fun _ => 0)), .inr (.inl (5, fun _ => 0)), .inr (.inl (5, fun _ => 0)), .inr (.inl (9, fun _ => 0))]) rfl ?_
  refine q_aload_n dX6_init_46 rfl (by rfl) ?_
  refine q_iconst (v := nI 0) dX6_init_47 (by decide) ?_
  refine p_put (ty := .int) (g := .inl (nI 0)) tyX6 8 hin_6 tyX6_ok nmX6 fl_X6_33 rfl (by decide) (fun _ => ⟨rfl, rfl⟩) (by decide +kernel) (fun _ => rfl) (fun _ => rfl) dX6_init_48 rfl (Nat.le_of_ble_eq_true rfl) rfl (l' := [.inl (6, [.inr none, .inr none, .inr (some (pre.length + 1)), .inr (some (pre.length + 2)), .inr (some (pre.length + 3)), .inr (some (pre.length + 4)), .inr (some (pre.length + 5)), .inl (nI 0), .inl (nI 0)]), .inr (.inl (42, fun _ => 0)), .inr (.inl (5, fun _ => 0)), .inr (.inl (5, fun _ => 0)), .inr (.inl (5, fun _ => 0)), .inr (.inl (9, fun _ => 0))]) rfl ?_
  refine q_aload_n dX6_init_51 rfl (by rfl) ?_
  refine q_aload_n dX6_init_52 rfl (by rfl) ?_
  refine p_put (ty := (.object "FirstAsleep$House")) (g := .inr (some h9)) tyX6 0 hin_6 tyX6_ok nmX6 fl_X6_36 rfl (by decide) (fun _ => ⟨rfl, rfl⟩) (by decide +kernel) (fun _ => rfl) (fun _ => rfl) dX6_init_53 rfl (Nat.le_of_ble_eq_true rfl) rfl (l' := [.inl (6, [.inr (some h9), .inr none, .inr (some (pre.length + 1)), .inr (some (pre.length + 2)), .inr (some (pre.length + 3)), .inr (some (pre.length + 4)), .inr (some (pre.length + 5)), .inl (nI 0), .inl (nI 0)]), .inr (.inl (42, fun _ => 0)), .inr (.inl (5, fun _ => 0)), .inr (.inl (5, fun _ => 0)), .inr (.inl (5, fun _ => 0)), .inr (.inl (9, fun _ => 0))]) rfl ?_
  refine q_aload_n dX6_init_56 rfl (by rfl) ?_
  refine q_aload_n dX6_init_57 rfl (by rfl) ?_
  refine p_put (ty := (.array (.object "FirstAsleep$Law"))) (g := .inr (some w9)) tyX6 1 hin_6 tyX6_ok nmX6 fl_X6_40 rfl (by decide) (fun _ => ⟨rfl, rfl⟩) (by decide +kernel) (fun _ => rfl) (fun _ => rfl) dX6_init_58 rfl (Nat.le_of_ble_eq_true rfl) rfl (l' := [.inl (6, [.inr (some h9), .inr (some w9), .inr (some (pre.length + 1)), .inr (some (pre.length + 2)), .inr (some (pre.length + 3)), .inr (some (pre.length + 4)), .inr (some (pre.length + 5)), .inl (nI 0), .inl (nI 0)]), .inr (.inl (42, fun _ => 0)), .inr (.inl (5, fun _ => 0)), .inr (.inl (5, fun _ => 0)), .inr (.inl (5, fun _ => 0)), .inr (.inl (9, fun _ => 0))]) rfl ?_
  exact q_ret rfl dX6_init_61 (Nat.le_of_ble_eq_true rfl) (Nat.le_of_ble_eq_true rfl) (fun G H _ h => ⟨rfl, h⟩)
def hurryB (b : Nat) : List EE := [.inl (4, [.inr (some (b + 1)), .inr (some (b + 2)), .inl (nI 0), .inl (-1), .inl (nI 0)]), .inr (.inl (81, fun _ => 0)), .inr (.inl (81, fun _ => 0))]
set_option maxHeartbeats 8000000 in
set_option maxRecDepth 20000 in
theorem i_X4 {pre : List EE} (hp : pre.length + 2 < 163) : MG mX4_init 1 2 162 [.ref (pre.length + 0)] (pre ++ [.inl (4, [.inr none, .inr none, .inl 0, .inl 0, .inl 0])]) (toEs (pre ++ hurryB pre.length)) := by
  refine MG.of (by decide) (Nat.le_of_ble_eq_true rfl) ?_
  refine q_aload_n dX4_init_0 rfl (by rfl) ?_
  refine q_objInit oi_X4 woi woc dX4_init_1 (by decide) ?_
  refine q_aload_n dX4_init_4 rfl (by rfl) ?_
  refine q_bipush (v := nI 81) dX4_init_5 (by decide) ?_
  refine p_newa (N := 81) (k9 := 1) (l' := [.inl (4, [.inr none, .inr none, .inl 0, .inl 0, .inl 0]), .inr (.inl (81, fun _ => 0))]) rfl (by decide) rfl rfl (by omega) (Nat.le_of_ble_eq_true rfl) (Nat.le_of_ble_eq_true rfl) dX4_init_7 ?_
  refine p_put (ty := (.array .int)) (g := .inr (some (pre.length + 1))) tyX4 0 hin_4 tyX4_ok nmX4 fl_X4_11 rfl (by decide) (fun _ => ⟨rfl, rfl⟩) (by decide +kernel) (fun _ => rfl) (fun _ => rfl) dX4_init_9 rfl (Nat.le_of_ble_eq_true rfl) rfl (l' := [.inl (4, [.inr (some (pre.length + 1)), .inr none, .inl 0, .inl 0, .inl 0]), .inr (.inl (81, fun _ => 0))]) rfl ?_
  refine q_aload_n dX4_init_12 rfl (by rfl) ?_
  refine q_bipush (v := nI 81) dX4_init_13 (by decide) ?_
  refine p_newa (N := 81) (k9 := 2) (l' := [.inl (4, [.inr (some (pre.length + 1)), .inr none, .inl 0, .inl 0, .inl 0]), .inr (.inl (81, fun _ => 0)), .inr (.inl (81, fun _ => 0))]) rfl (by decide) rfl rfl (by omega) (Nat.le_of_ble_eq_true rfl) (Nat.le_of_ble_eq_true rfl) dX4_init_15 ?_
  refine p_put (ty := (.array .int)) (g := .inr (some (pre.length + 2))) tyX4 1 hin_4 tyX4_ok nmX4 fl_X4_15 rfl (by decide) (fun _ => ⟨rfl, rfl⟩) (by decide +kernel) (fun _ => rfl) (fun _ => rfl) dX4_init_17 rfl (Nat.le_of_ble_eq_true rfl) rfl (l' := [.inl (4, [.inr (some (pre.length + 1)), .inr (some (pre.length + 2)), .inl 0, .inl 0, .inl 0]), .inr (.inl (81, fun _ => 0)), .inr (.inl (81, fun _ => 0))]) rfl ?_
  refine q_aload_n dX4_init_20 rfl (by rfl) ?_
  refine q_iconst (v := nI 0) dX4_init_21 (by decide) ?_
  refine p_put (ty := .int) (g := .inl (nI 0)) tyX4 2 hin_4 tyX4_ok nmX4 fl_X4_18 rfl (by decide) (fun _ => ⟨rfl, rfl⟩) (by decide +kernel) (fun _ => rfl) (fun _ => rfl) dX4_init_22 rfl (Nat.le_of_ble_eq_true rfl) rfl (l' := [.inl (4, [.inr (some (pre.length + 1)), .inr (some (pre.length + 2)), .inl (nI 0), .inl 0, .inl 0]), .inr (.inl (81, fun _ => 0)), .inr (.inl (81, fun _ => 0))]) rfl ?_
  refine q_aload_n dX4_init_25 rfl (by rfl) ?_
  refine q_iconst (v := -1) dX4_init_26 (by decide) ?_
  refine p_put (ty := .int) (g := .inl (-1)) tyX4 3 hin_4 tyX4_ok nmX4 fl_X4_22 rfl (by decide) (fun _ => ⟨rfl, rfl⟩) (by decide +kernel) (fun _ => rfl) (fun _ => rfl) dX4_init_27 rfl (Nat.le_of_ble_eq_true rfl) rfl (l' := [.inl (4, [.inr (some (pre.length + 1)), .inr (some (pre.length + 2)), .inl (nI 0), .inl (-1), .inl 0]), .inr (.inl (81, fun _ => 0)), .inr (.inl (81, fun _ => 0))]) rfl ?_
  refine q_aload_n dX4_init_30 rfl (by rfl) ?_
  refine q_iconst (v := nI 0) dX4_init_31 (by decide) ?_
  refine p_put (ty := .int) (g := .inl (nI 0)) tyX4 4 hin_4 tyX4_ok nmX4 fl_X4_25 rfl (by decide) (fun _ => ⟨rfl, rfl⟩) (by decide +kernel) (fun _ => rfl) (fun _ => rfl) dX4_init_32 rfl (Nat.le_of_ble_eq_true rfl) rfl (l' := [.inl (4, [.inr (some (pre.length + 1)), .inr (some (pre.length + 2)), .inl (nI 0), .inl (-1), .inl (nI 0)]), .inr (.inl (81, fun _ => 0)), .inr (.inl (81, fun _ => 0))]) rfl ?_
  exact q_ret rfl dX4_init_35 (Nat.le_of_ble_eq_true rfl) (Nat.le_of_ble_eq_true rfl) (fun G H _ h => ⟨rfl, h⟩)
set_option maxHeartbeats 8000000 in
set_option maxRecDepth 20000 in
theorem i_X2 {pre : List EE} (hp : pre.length + 17 < 163) : MG mX2_init 1 17 688 [.ref (pre.length + 0)] (pre ++ [.inl (2, [.inr none, .inl 0])]) (toEs (pre ++ histB pre.length)) := by
  refine MG.of (by decide) (Nat.le_of_ble_eq_true rfl) ?_
  refine q_aload_n dX2_init_0 rfl (by rfl) ?_
  refine q_objInit oi_X2 woi woc dX2_init_1 (by decide) ?_
  refine q_aload_n dX2_init_4 rfl (by rfl) ?_
  refine q_bipush (v := nI 16) dX2_init_5 (by decide) ?_
  refine q_bipush (v := nI 42) dX2_init_7 (by decide) ?_
  refine p_mna (N := 16) (K := 42) (k9 := 1) (l' := .inl (2, [.inr none, .inl 0]) :: .inr (.inr (2, (List.range 16).map (fun i => some (pre.length + 1 + 1 + i)))) :: List.replicate 16 (.inr (.inl (42, fun _ => 0)))) cl_X2_11 rfl rfl (by decide) (by decide) rfl rfl (by omega) (Nat.le_of_ble_eq_true rfl) (Nat.le_of_ble_eq_true rfl) dX2_init_9 ?_
  refine p_put (ty := (.array (.array .int))) (g := .inr (some (pre.length + 1))) tyX2 0 hin_2 tyX2_ok nmX2 fl_X2_13 rfl (by decide) (fun _ => ⟨rfl, rfl⟩) (by decide +kernel) (fun _ => rfl) (fun _ => rfl) dX2_init_13 rfl (Nat.le_of_ble_eq_true rfl) rfl (l' := .inl (2, [.inr (some (pre.length + 1)), .inl 0]) :: .inr (.inr (2, (List.range 16).map (fun i => some (pre.length + 1 + 1 + i)))) :: List.replicate 16 (.inr (.inl (42, fun _ => 0)))) rfl ?_
  refine q_aload_n dX2_init_16 rfl (by rfl) ?_
  refine q_iconst (v := nI 0) dX2_init_17 (by decide) ?_
  refine p_put (ty := .int) (g := .inl (nI 0)) tyX2 1 hin_2 tyX2_ok nmX2 fl_X2_16 rfl (by decide) (fun _ => ⟨rfl, rfl⟩) (by decide +kernel) (fun _ => rfl) (fun _ => rfl) dX2_init_18 rfl (Nat.le_of_ble_eq_true rfl) rfl (l' := .inl (2, [.inr (some (pre.length + 1)), .inl (nI 0)]) :: .inr (.inr (2, (List.range 16).map (fun i => some (pre.length + 1 + 1 + i)))) :: List.replicate 16 (.inr (.inl (42, fun _ => 0)))) rfl ?_
  exact q_ret rfl dX2_init_21 (Nat.le_of_ble_eq_true rfl) (Nat.le_of_ble_eq_true rfl) (fun G H _ h => ⟨rfl, h⟩)
