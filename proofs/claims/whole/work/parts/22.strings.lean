/-! STRINGS of the code: length, charAt -/
theorem dJ0_length_8abf5_0 : decode cJ0_length_8abf5 0 = .ok (.aload_n 0, 1) := by decide +kernel
theorem dJ0_length_8abf5_1 : decode cJ0_length_8abf5 1 = .ok (.getfield 9, 3) := by decide +kernel
theorem dJ0_length_8abf5_4 : decode cJ0_length_8abf5 4 = .ok (.arraylength, 1) := by decide +kernel
theorem dJ0_length_8abf5_5 : decode cJ0_length_8abf5 5 = .ok (.aload_n 0, 1) := by decide +kernel
theorem dJ0_length_8abf5_6 : decode cJ0_length_8abf5 6 = .ok (.invokevirtual 335, 3) := by decide +kernel
theorem dJ0_length_8abf5_9 : decode cJ0_length_8abf5 9 = .ok (.ishr, 1) := by decide +kernel
theorem dJ0_length_8abf5_10 : decode cJ0_length_8abf5 10 = .ok (.ireturn, 1) := by decide +kernel
theorem dJ0_coder_7d493_0 : decode cJ0_coder_7d493 0 = .ok (.getstatic 38, 3) := by decide +kernel
theorem dJ0_coder_7d493_3 : decode cJ0_coder_7d493 3 = .ok (.ifCond .eq 10, 3) := by decide +kernel
theorem dJ0_coder_7d493_6 : decode cJ0_coder_7d493 6 = .ok (.aload_n 0, 1) := by decide +kernel
theorem dJ0_coder_7d493_7 : decode cJ0_coder_7d493 7 = .ok (.getfield 15, 3) := by decide +kernel
theorem dJ0_coder_7d493_10 : decode cJ0_coder_7d493 10 = .ok (.goto 4, 3) := by decide +kernel
theorem dJ0_coder_7d493_13 : decode cJ0_coder_7d493 13 = .ok (.iconst 1, 1) := by decide +kernel
theorem dJ0_coder_7d493_14 : decode cJ0_coder_7d493 14 = .ok (.ireturn, 1) := by decide +kernel
theorem dJ0_isLatin1_aae02_0 : decode cJ0_isLatin1_aae02 0 = .ok (.getstatic 38, 3) := by decide +kernel
theorem dJ0_isLatin1_aae02_3 : decode cJ0_isLatin1_aae02 3 = .ok (.ifCond .eq 14, 3) := by decide +kernel
theorem dJ0_isLatin1_aae02_6 : decode cJ0_isLatin1_aae02 6 = .ok (.aload_n 0, 1) := by decide +kernel
theorem dJ0_isLatin1_aae02_7 : decode cJ0_isLatin1_aae02 7 = .ok (.getfield 15, 3) := by decide +kernel
theorem dJ0_isLatin1_aae02_10 : decode cJ0_isLatin1_aae02 10 = .ok (.ifCond .ne 7, 3) := by decide +kernel
theorem dJ0_isLatin1_aae02_13 : decode cJ0_isLatin1_aae02 13 = .ok (.iconst 1, 1) := by decide +kernel
theorem dJ0_isLatin1_aae02_14 : decode cJ0_isLatin1_aae02 14 = .ok (.goto 4, 3) := by decide +kernel
theorem dJ0_isLatin1_aae02_17 : decode cJ0_isLatin1_aae02 17 = .ok (.iconst 0, 1) := by decide +kernel
theorem dJ0_isLatin1_aae02_18 : decode cJ0_isLatin1_aae02 18 = .ok (.ireturn, 1) := by decide +kernel
theorem dJ0_charAt_5068e_0 : decode cJ0_charAt_5068e 0 = .ok (.aload_n 0, 1) := by decide +kernel
theorem dJ0_charAt_5068e_1 : decode cJ0_charAt_5068e 1 = .ok (.invokevirtual 492, 3) := by decide +kernel
theorem dJ0_charAt_5068e_4 : decode cJ0_charAt_5068e 4 = .ok (.ifCond .eq 12, 3) := by decide +kernel
theorem dJ0_charAt_5068e_7 : decode cJ0_charAt_5068e 7 = .ok (.aload_n 0, 1) := by decide +kernel
theorem dJ0_charAt_5068e_8 : decode cJ0_charAt_5068e 8 = .ok (.getfield 9, 3) := by decide +kernel
theorem dJ0_charAt_5068e_11 : decode cJ0_charAt_5068e 11 = .ok (.iload_n 1, 1) := by decide +kernel
theorem dJ0_charAt_5068e_12 : decode cJ0_charAt_5068e 12 = .ok (.invokestatic 495, 3) := by decide +kernel
theorem dJ0_charAt_5068e_15 : decode cJ0_charAt_5068e 15 = .ok (.ireturn, 1) := by decide +kernel
theorem dJ0_charAt_5068e_16 : decode cJ0_charAt_5068e 16 = .ok (.aload_n 0, 1) := by decide +kernel
theorem dJ0_charAt_5068e_17 : decode cJ0_charAt_5068e 17 = .ok (.getfield 9, 3) := by decide +kernel
theorem dJ0_charAt_5068e_20 : decode cJ0_charAt_5068e 20 = .ok (.iload_n 1, 1) := by decide +kernel
theorem dJ0_charAt_5068e_21 : decode cJ0_charAt_5068e 21 = .ok (.invokestatic 498, 3) := by decide +kernel
theorem dJ0_charAt_5068e_24 : decode cJ0_charAt_5068e 24 = .ok (.ireturn, 1) := by decide +kernel
theorem dJ1_charAt_3b067_0 : decode cJ1_charAt_3b067 0 = .ok (.iload_n 1, 1) := by decide +kernel
theorem dJ1_charAt_3b067_1 : decode cJ1_charAt_3b067 1 = .ok (.aload_n 0, 1) := by decide +kernel
theorem dJ1_charAt_3b067_2 : decode cJ1_charAt_3b067 2 = .ok (.arraylength, 1) := by decide +kernel
theorem dJ1_charAt_3b067_3 : decode cJ1_charAt_3b067 3 = .ok (.invokestatic 9, 3) := by decide +kernel
theorem dJ1_charAt_3b067_6 : decode cJ1_charAt_3b067 6 = .ok (.aload_n 0, 1) := by decide +kernel
theorem dJ1_charAt_3b067_7 : decode cJ1_charAt_3b067 7 = .ok (.iload_n 1, 1) := by decide +kernel
theorem dJ1_charAt_3b067_8 : decode cJ1_charAt_3b067 8 = .ok (.baload, 1) := by decide +kernel
theorem dJ1_charAt_3b067_9 : decode cJ1_charAt_3b067 9 = .ok (.sipush 255, 3) := by decide +kernel
theorem dJ1_charAt_3b067_12 : decode cJ1_charAt_3b067 12 = .ok (.iand, 1) := by decide +kernel
theorem dJ1_charAt_3b067_13 : decode cJ1_charAt_3b067 13 = .ok (.i2c, 1) := by decide +kernel
theorem dJ1_charAt_3b067_14 : decode cJ1_charAt_3b067 14 = .ok (.ireturn, 1) := by decide +kernel
theorem dJ0_checkIndex_df160_0 : decode cJ0_checkIndex_df160 0 = .ok (.iload_n 0, 1) := by decide +kernel
theorem dJ0_checkIndex_df160_1 : decode cJ0_checkIndex_df160 1 = .ok (.iload_n 1, 1) := by decide +kernel
theorem dJ0_checkIndex_df160_2 : decode cJ0_checkIndex_df160 2 = .ok (.getstatic 1053, 3) := by decide +kernel
theorem dJ0_checkIndex_df160_5 : decode cJ0_checkIndex_df160 5 = .ok (.invokestatic 1059, 3) := by decide +kernel
theorem dJ0_checkIndex_df160_8 : decode cJ0_checkIndex_df160 8 = .ok (.pop, 1) := by decide +kernel
theorem dJ0_checkIndex_df160_9 : decode cJ0_checkIndex_df160 9 = .ok (.return_, 1) := by decide +kernel
theorem dJ3_checkIndex_8e157_0 : decode cJ3_checkIndex_8e157 0 = .ok (.iload_n 0, 1) := by decide +kernel
theorem dJ3_checkIndex_8e157_1 : decode cJ3_checkIndex_8e157 1 = .ok (.ifCond .lt 8, 3) := by decide +kernel
theorem dJ3_checkIndex_8e157_4 : decode cJ3_checkIndex_8e157 4 = .ok (.iload_n 0, 1) := by decide +kernel
theorem dJ3_checkIndex_8e157_5 : decode cJ3_checkIndex_8e157 5 = .ok (.iload_n 1, 1) := by decide +kernel
theorem dJ3_checkIndex_8e157_6 : decode cJ3_checkIndex_8e157 6 = .ok (.if_icmp .lt 10, 3) := by decide +kernel
theorem dJ3_checkIndex_8e157_9 : decode cJ3_checkIndex_8e157 9 = .ok (.aload_n 2, 1) := by decide +kernel
theorem dJ3_checkIndex_8e157_10 : decode cJ3_checkIndex_8e157 10 = .ok (.iload_n 0, 1) := by decide +kernel
theorem dJ3_checkIndex_8e157_11 : decode cJ3_checkIndex_8e157 11 = .ok (.iload_n 1, 1) := by decide +kernel
theorem dJ3_checkIndex_8e157_12 : decode cJ3_checkIndex_8e157 12 = .ok (.invokestatic 95, 3) := by decide +kernel
theorem dJ3_checkIndex_8e157_15 : decode cJ3_checkIndex_8e157 15 = .ok (.athrow, 1) := by decide +kernel
theorem dJ3_checkIndex_8e157_16 : decode cJ3_checkIndex_8e157 16 = .ok (.iload_n 0, 1) := by decide +kernel
theorem dJ3_checkIndex_8e157_17 : decode cJ3_checkIndex_8e157 17 = .ok (.ireturn, 1) := by decide +kernel
section CallX
variable {M M' : MD} {d mc ms mc' ms' d' : Nat} {Post Post' : Option Value → XS → Prop} {PT PT' : String → XS → Prop} {pc : Nat} {L : List (Nat × Value)} {st : List Value} {x : XS}
set_option maxHeartbeats 2000000 in
theorem r_callVX {n idx i9 : Nat} {as rest : List Value} (hC : MM M' d' 0 0 (.ref (1000 + i9) :: as) x Post' NoT) (hM : MV M' n) (hw : Cond.methodLink M.1.cls idx M'.1 ∈ WS) (hr : d' + 1 ≤ d ∧ M'.2.2.1 ≤ 45) (hdg : decode M.2.1 pc = .ok (.invokevirtual idx, 3)) (hi9 : i9 < 25) (hq : "java/lang/String" = M'.1.cls) (hn : as.length = n) (hrest : (rest.map fun v => v.category).sum ≤ 8) (k : ∀ v x', Post' v x' → PW M (RM d mc ms) mc ms Post PT (pc + 3) L (v.toList ++ rest) x') : PW M (RM d mc ms) mc ms Post PT pc L (as.reverse ++ .ref (1000 + i9) :: rest) x := by
  intro p l e s m args below meth c G H locs ls C hH hS hL
  have hcb : CallB (RM d mc ms) s args M.1.cls idx M'.1 M'.2.1 M'.2.2.1 M'.2.2.2 (.code M'.1 M'.2.1 M'.2.2.1 M'.2.2.2 :: WS) (RM d' 0 0) 0 0 n := callB_of n C.2.2.2.2.1 (goodIn_code hM.2.1) rfl rfl rfl (C.2.2.2.2.1 _ hM.1) (C.2.2.2.2.1 _ hw) hM.2.2.2.2 (room_ok hr.1 hr.2)
  have hrest2 : 2 * (F0 m pc ls ((as.reverse ++ .ref (1000 + i9) :: rest).map (tr G))).monitorRoom + ((rest.map (tr G)).map fun v => v.category).sum ≤ 8 := by
    have e9 : ((rest.map (tr G)).map fun v => v.category) = rest.map fun v => v.category := by rw [List.map_map]; exact List.map_congr_left (fun v _ => tr_cat G v)
    rw [e9]
    exact lv_room hrest
  have hrun := vx_runV (l := l) (e := e) (below := below) (meth := meth) (H := H) (locs := locs) (cells := 0) (slots := 0) (b := gA G (1000 + i9)) (As := as.map (tr G)) (rest := rest.map (tr G)) (g := F0 m pc ls ((as.reverse ++ .ref (1000 + i9) :: rest).map (tr G))) ⟨C.1, C.2.1, C.2.2.1, C.2.2.2.1, C.2.2.2.2.1⟩ (hC l G H.size C.2.2.2.2.2.2.2.2.2.2.1 C.2.2.2.2.2.2.2.2.1) ⟨hcb, C.2.2.2.2.1 _ hM.2.2.1, C.2.2.2.2.1 _ hM.2.2.2.1⟩ ⟨pre_blind (.ref (1000 + i9) :: as) G H.size x, by have h9 := vk_recv C.2.2.2.2.2.2.2.2.2.1.1 hi9 hS; rw [hq] at h9; exact h9, pre_at C hH hS (.ref (1000 + i9) :: as)⟩ rfl (by rw [List.length_map]; exact hn) hL.1 (by show (as.reverse ++ Value.ref (1000 + i9) :: rest).map (tr G) = _; rw [List.map_append, List.map_reverse]; rfl) hrest2 hdg ⟨Nat.zero_le _, Nat.zero_le _⟩
  intro T hT X
  rcases hrun T hT X with ⟨v, st₀, t, T', LL, h0, X', hLL, e1, e2, ⟨⟨v', x', hv, hp, hh⟩, hF⟩, go⟩ | ⟨q9, st₀, t, T', LL, E, ce, h0, X', hLL, e1, e2, ⟨⟨x', hp, hh⟩, hF⟩, hce, hcv, hcl9, go⟩
  · cases hv
    obtain ⟨k1, k2, k3⟩ := vx_keep h0 e1 hS (fun q _ h => AA_sub hS.1 q h) (AA_sub hS.1) hLL hF
    have hk := k v' x' hp p l e s m args below meth c G T'.heap (locs ++ LL) ls C (by rw [e1]; exact hh) k3 hL
    rw [List.map_append] at hk
    obtain ⟨t2, a1, b1⟩ := hk T' rfl X'
    refine ⟨t2, go t2 ?_, b1⟩
    cases v' with
    | none => exact a1
    | some w => exact a1
  · exact hp.elim
end CallX
section Str
variable {M : MD} {R : Room} {mc ms : Nat} {Post : Option Value → XS → Prop} {PT : String → XS → Prop} {pc : Nat} {L : List (Nat × Value)} {st : List Value} {x : XS}
theorem r_strV {idx i : Nat} (hi : i < 25) (hw : Cond.fieldLink M.1.cls idx "java/lang/String" "value" "[B" ∈ WS) (hd : decode M.2.1 pc = .ok (.getfield idx, 3)) (k : PW M R mc ms Post PT (pc + 3) L (.ref (1100 + i) :: st) x) : PW M R mc ms Post PT pc L (.ref (1000 + i) :: st) x := by
  intro p l e s m args below meth c G H locs ls C hH hS hL
  exact vk_getf C.1 C.2.1 (C.2.2.2.2.2.2.2.2.2.1.1.1 i hi).2.2.1 hS C.2.2.2.1 (C.2.2.2.2.1 _ hw) (fun _ h => h) hd (k p l e s m args below meth c G H locs ls C hH hS hL)
theorem r_strC {idx i : Nat} (hi : i < 25) (hw : Cond.fieldLink M.1.cls idx "java/lang/String" "coder" "B" ∈ WS) (hd : decode M.2.1 pc = .ok (.getfield idx, 3)) (k : PW M R mc ms Post PT (pc + 3) L (.int 0 :: st) x) : PW M R mc ms Post PT pc L (.ref (1000 + i) :: st) x := by
  intro p l e s m args below meth c G H locs ls C hH hS hL
  exact vk_getf C.1 C.2.1 (C.2.2.2.2.2.2.2.2.2.1.1.1 i hi).2.1 hS C.2.2.2.1 (C.2.2.2.2.1 _ hw) (fun _ h => h) hd (k p l e s m args below meth c G H locs ls C hH hS hL)
theorem r_getsC {idx : Nat} (hw : Cond.fieldLink M.1.cls idx "java/lang/String" "COMPACT_STRINGS" "Z" ∈ WS) (hd : decode M.2.1 pc = .ok (.getstatic idx, 3)) (k : PW M R mc ms Post PT (pc + 3) L (.int 1 :: st) x) : PW M R mc ms Post PT pc L st x := by
  intro p l e s m args below meth c G H locs ls C hH hS hL
  exact va_gets C.1 C.2.1 C.2.2.2.2.2.2.2.2.2.1.2.1 hS C.2.2.2.1 (C.2.2.2.2.1 _ hw) (fun _ h => h) hd (k p l e s m args below meth c G H locs ls C hH hS hL)
theorem r_getsQ {idx : Nat} (hw : Cond.fieldLink M.1.cls idx "jdk/internal/util/Preconditions" "SIOOBE_FORMATTER" "Ljava/util/function/BiFunction;" ∈ WS) (hd : decode M.2.1 pc = .ok (.getstatic idx, 3)) (k : ∀ w : Value, w = .null ∨ w = .ref 3000 → PW M R mc ms Post PT (pc + 3) L (w :: st) x) : PW M R mc ms Post PT pc L st x := by
  intro p l e s m args below meth c G H locs ls C hH hS hL
  rcases C.2.2.2.2.2.2.2.2.2.1.2.2.1 with h | h
  · exact va_gets C.1 C.2.1 h hS C.2.2.2.1 (C.2.2.2.2.1 _ hw) (fun _ h => h) hd (k .null (Or.inl rfl) p l e s m args below meth c G H locs ls C hH hS hL)
  · exact va_gets C.1 C.2.1 h hS C.2.2.2.1 (C.2.2.2.2.1 _ hw) (fun _ h => h) hd (k (.ref 3000) (Or.inr rfl) p l e s m args below meth c G H locs ls C hH hS hL)
theorem r_blen {i : Nat} (hi : i < 25) (hd : decode M.2.1 pc = .ok (.arraylength, 1)) (k : PW M R mc ms Post PT (pc + 1) L (.int (nI (strN.getD i 0)) :: st) x) : PW M R mc ms Post PT pc L (.ref (1100 + i) :: st) x := by
  intro p l e s m args below meth c G H locs ls C hH hS hL
  exact va_tlen C.1 C.2.1 (C.2.2.2.2.2.2.2.2.2.1.1.1 i hi).2.2.2 hS rfl hd (k p l e s m args below meth c G H locs ls C hH hS hL)
theorem r_bald {i j : Nat} (hi : i < 25) (hd : decode M.2.1 pc = .ok (.baload, 1)) (hj : j < strN.getD i 0) (hN : strN.getD i 0 < 2 ^ 31) (k : PW M R mc ms Post PT (pc + 1) L (.int ((strB.getD i []).getD j 0) :: st) x) : PW M R mc ms Post PT pc L (.int (nI j) :: .ref (1100 + i) :: st) x := by
  intro p l e s m args below meth c G H locs ls C hH hS hL
  exact va_tb C.1 C.2.1 (C.2.2.2.2.2.2.2.2.2.1.1.1 i hi).2.2.2 hS (vp_in_nI hj hN) (by show Value.int _ = .int _; rw [nI_clamp (by omega)]) hd (k p l e s m args below meth c G H locs ls C hH hS hL)
end Str
section Nret
variable {M : MD} {R : Room} {Post : Option Value → XS → Prop} {PT : String → XS → Prop} {pc : Nat} {L : List (Nat × Value)} {x : XS}
theorem r_nret {v : Int32} {ty : FieldType} (hr : M.2.2.2 = some ty) (hn : narrow ty (.int v) = .int v) (hd : decode M.2.1 pc = .ok (.ireturn, 1)) (hp : Post (some (.int v)) x) : PW M R 0 0 Post PT pc L [.int v] x := by
  intro p l e s m args below meth c G H locs ls C hH hS hL
  have hlocks : meth.locks = false := C.2.2.2.2.2.2.2.1
  exact vx_ret (W.zret C.1 C.2.1 (C.2.2.2.2.2.2.1.trans hr) hn (fun t ht hW => ⟨⟨some (.int v), x, rfl, hp, by rw [ht]; exact hH⟩, hS.F ht⟩) hS.2.2 hd)
end Nret
/-- a string's sign -/
def chV (i j : Nat) : Int32 := (strB.getD i []).getD j 0
theorem strN_lt {i : Nat} (hi : i < 25) : strN.getD i 0 < 2 ^ 31 := by
  have h : ∀ i, i < 25 → strN.getD i 0 < 2 ^ 31 := by decide +kernel
  exact h i hi
set_option maxRecDepth 100000 in
theorem str_ok : ∀ i, i < 25 → ∀ j, j < strN.getD i 0 → ((((strB.getD i []).getD j 0 &&& nI 255).toUInt32 % 65536).toInt32 = (strB.getD i []).getD j 0 ∧ narrow .char (.int ((strB.getD i []).getD j 0)) = .int ((strB.getD i []).getD j 0)) := by decide +kernel
set_option maxRecDepth 100000 in
theorem fl_J0_9s : Cond.fieldLink RJ0 9 "java/lang/String" "value" "[B" ∈ WS := ws_t 1806 rfl rfl
set_option maxRecDepth 100000 in
theorem fl_J0_15s : Cond.fieldLink RJ0 15 "java/lang/String" "coder" "B" ∈ WS := ws_t 1807 rfl rfl
set_option maxRecDepth 100000 in
theorem fl_J0_38s : Cond.fieldLink RJ0 38 "java/lang/String" "COMPACT_STRINGS" "Z" ∈ WS := ws_t 540 rfl rfl
set_option maxRecDepth 100000 in
theorem fl_J0_1053s : Cond.fieldLink RJ0 1053 "jdk/internal/util/Preconditions" "SIOOBE_FORMATTER" "Ljava/util/function/BiFunction;" ∈ WS := ws_t 556 rfl rfl
set_option maxHeartbeats 8000000 in
set_option maxRecDepth 20000 in
theorem c_coder {i : Nat} {x : XS} (hi : i < 25) : MM mJ0_coder_7d493 0 0 0 [.ref (1000 + i)] x (fun v x1 => v = some (.int 0) ∧ x1 = x) NoT := by
  refine MM.ofF (by decide +kernel) (Nat.le_of_ble_eq_true rfl) ?_
  refine r_getsC fl_J0_38s dJ0_coder_7d493_0 ?_
  refine r_if_eq (tgt := 13) dJ0_coder_7d493_3 (by decide) (fun h3 => ?_) (fun h3 => ?_)
  · refine r_iconst (v := nI 1) dJ0_coder_7d493_13 (by decide) ?_
    first
      | exact absurd h3 (by decide +kernel)
      | (refine r_nret rfl (by decide +kernel) dJ0_coder_7d493_14 ?_
         exact ⟨rfl, rfl⟩)
  · refine r_aload_n dJ0_coder_7d493_6 rfl (by rfl) ?_
    refine r_strC hi fl_J0_15s dJ0_coder_7d493_7 ?_
    refine r_goto (tgt := 14) dJ0_coder_7d493_10 (by decide) ?_
    first
      | exact absurd h3 (by decide +kernel)
      | (refine r_nret rfl (by decide +kernel) dJ0_coder_7d493_14 ?_
         exact ⟨rfl, rfl⟩)
set_option maxHeartbeats 8000000 in
set_option maxRecDepth 20000 in
theorem c_length {i : Nat} {x : XS} (hi : i < 25) : MM mJ0_length_8abf5 1 0 0 [.ref (1000 + i)] x (fun v x1 => v = some (.int (nI (strN.getD i 0))) ∧ x1 = x) NoT := by
  refine MM.ofF (by decide +kernel) (Nat.le_of_ble_eq_true rfl) ?_
  refine r_aload_n dJ0_length_8abf5_0 rfl (by rfl) ?_
  refine r_strV hi fl_J0_9s dJ0_length_8abf5_1 ?_
  refine r_blen hi dJ0_length_8abf5_4 ?_
  refine r_aload_n dJ0_length_8abf5_5 rfl (by rfl) ?_
  refine r_callVX (i9 := i) (c_coder hi) mv_J0_coder_7d493 ml_J0_335 ⟨by decide, by decide⟩ dJ0_length_8abf5_6 hi rfl rfl (Nat.le_of_ble_eq_true rfl) (fun v9 x9 h9 => ?_)
  obtain ⟨rfl, h9⟩ := h9
  refine PW.xeq h9 ?_
  clear h9 x9
  refine r_ishr dJ0_length_8abf5_9 ?_
  refine PW.topi (show _ = nI (strN.getD i 0) by have := pk_shrN (strN_lt hi) (0 &&& 31) 0 (by decide +kernel); rw [this]; congr 1; omega) ?_
  refine r_iret rfl dJ0_length_8abf5_10 ?_
  exact ⟨rfl, rfl⟩
set_option maxHeartbeats 8000000 in
set_option maxRecDepth 20000 in
theorem c_isLatin1 {i : Nat} {x : XS} (hi : i < 25) : MM mJ0_isLatin1_aae02 0 0 0 [.ref (1000 + i)] x (fun v x1 => v = some (.int (bI true)) ∧ x1 = x) NoT := by
  refine MM.ofF (by decide +kernel) (Nat.le_of_ble_eq_true rfl) ?_
  refine r_getsC fl_J0_38s dJ0_isLatin1_aae02_0 ?_
  refine r_if_eq (tgt := 17) dJ0_isLatin1_aae02_3 (by decide) (fun h3 => ?_) (fun h3 => ?_)
  · refine r_iconst (v := nI 0) dJ0_isLatin1_aae02_17 (by decide) ?_
    refine r_zret rfl (by first | exact bI_01 _ | exact Or.inl rfl | exact Or.inr rfl) dJ0_isLatin1_aae02_18 ?_
    first
      | exact ⟨rfl, rfl⟩
      | exact absurd h3 (by decide +kernel)
      | exact absurd (show (0 : Int32) = 0 from rfl) h10
  · refine r_aload_n dJ0_isLatin1_aae02_6 rfl (by rfl) ?_
    refine r_strC hi fl_J0_15s dJ0_isLatin1_aae02_7 ?_
    refine r_if_ne (tgt := 17) dJ0_isLatin1_aae02_10 (by decide) (fun h10 => ?_) (fun h10 => ?_)
    · refine r_iconst (v := nI 0) dJ0_isLatin1_aae02_17 (by decide) ?_
      refine r_zret rfl (by first | exact bI_01 _ | exact Or.inl rfl | exact Or.inr rfl) dJ0_isLatin1_aae02_18 ?_
      first
        | exact ⟨rfl, rfl⟩
        | exact absurd h3 (by decide +kernel)
        | exact absurd (show (0 : Int32) = 0 from rfl) h10
    · refine r_iconst (v := nI 1) dJ0_isLatin1_aae02_13 (by decide) ?_
      refine r_goto (tgt := 18) dJ0_isLatin1_aae02_14 (by decide) ?_
      refine r_zret rfl (by first | exact bI_01 _ | exact Or.inl rfl | exact Or.inr rfl) dJ0_isLatin1_aae02_18 ?_
      first
        | exact ⟨rfl, rfl⟩
        | exact absurd h3 (by decide +kernel)
        | exact absurd (show (0 : Int32) = 0 from rfl) h10
set_option maxHeartbeats 8000000 in
set_option maxRecDepth 20000 in
theorem c_checkIndex3 {j n : Nat} {w : Value} {x : XS} (hw : w = .null ∨ w = .ref 3000) (hj : j < n) (hn : n < 2 ^ 31) : MM mJ3_checkIndex_8e157 0 0 0 [.int (nI j), .int (nI n), w] x (fun v x1 => v = some (.int (nI j)) ∧ x1 = x) NoT := by
  rcases hw with rfl | rfl
  all_goals
    refine MM.ofF (by decide +kernel) (Nat.le_of_ble_eq_true rfl) ?_
    refine r_iload_n dJ3_checkIndex_8e157_0 rfl (by rfl) ?_
    refine r_if_lt (tgt := 9) dJ3_checkIndex_8e157_1 (by decide) (fun h1 => absurd h1 (nI_pos (by omega))) (fun _ => ?_)
    refine r_iload_n dJ3_checkIndex_8e157_4 rfl (by rfl) ?_
    refine r_iload_n dJ3_checkIndex_8e157_5 rfl (by rfl) ?_
    refine r_icmp_ltN (tgt := 16) dJ3_checkIndex_8e157_6 (by decide) (by omega) (by omega) (fun _ => ?_) (fun h6 => by exfalso; omega)
    refine r_iload_n dJ3_checkIndex_8e157_16 rfl (by rfl) ?_
    refine r_iret rfl dJ3_checkIndex_8e157_17 ?_
    exact ⟨rfl, rfl⟩
set_option maxHeartbeats 8000000 in
set_option maxRecDepth 20000 in
theorem c_checkIndex0 {j n : Nat} {x : XS} (hj : j < n) (hn : n < 2 ^ 31) : MM mJ0_checkIndex_df160 1 0 0 [.int (nI j), .int (nI n)] x (fun v x1 => v = none ∧ x1 = x) NoT := by
  refine MM.ofF (by decide +kernel) (Nat.le_of_ble_eq_true rfl) ?_
  refine r_iload_n dJ0_checkIndex_df160_0 rfl (by rfl) ?_
  refine r_iload_n dJ0_checkIndex_df160_1 rfl (by rfl) ?_
  refine r_getsQ fl_J0_1053s dJ0_checkIndex_df160_2 (fun w hw => ?_)
  refine r_callS (c_checkIndex3 hw hj hn) ms_J3_checkIndex_8e157 ml_J0_1059 ⟨by decide, by decide⟩ dJ0_checkIndex_df160_5 rfl (Nat.le_of_ble_eq_true rfl) (fun v9 x9 h9 => ?_)
  obtain ⟨rfl, h9⟩ := h9
  refine PW.xeq h9 ?_
  clear h9 x9
  refine r_pop dJ0_checkIndex_df160_8 rfl ?_
  refine r_ret rfl dJ0_checkIndex_df160_9 ?_
  exact ⟨rfl, rfl⟩
set_option maxHeartbeats 8000000 in
set_option maxRecDepth 20000 in
theorem c_charAt1 {i j : Nat} {x : XS} (hi : i < 25) (hj : j < strN.getD i 0) : MM mJ1_charAt_3b067 2 0 0 [.ref (1100 + i), .int (nI j)] x (fun v x1 => v = some (.int (chV i j)) ∧ x1 = x) NoT := by
  refine MM.ofF (by decide +kernel) (Nat.le_of_ble_eq_true rfl) ?_
  refine r_iload_n dJ1_charAt_3b067_0 rfl (by rfl) ?_
  refine r_aload_n dJ1_charAt_3b067_1 rfl (by rfl) ?_
  refine r_blen hi dJ1_charAt_3b067_2 ?_
  refine r_callS (c_checkIndex0 hj (strN_lt hi)) ms_J0_checkIndex_df160 ml_J1_9 ⟨by decide, by decide⟩ dJ1_charAt_3b067_3 rfl (Nat.le_of_ble_eq_true rfl) (fun v9 x9 h9 => ?_)
  obtain ⟨rfl, h9⟩ := h9
  refine PW.xeq h9 ?_
  clear h9 x9
  refine r_aload_n dJ1_charAt_3b067_6 rfl (by rfl) ?_
  refine r_iload_n dJ1_charAt_3b067_7 rfl (by rfl) ?_
  refine r_bald hi dJ1_charAt_3b067_8 hj (strN_lt hi) ?_
  refine r_sipush (v := nI 255) dJ1_charAt_3b067_9 (by decide) ?_
  refine r_iand dJ1_charAt_3b067_12 ?_
  refine r_i2c dJ1_charAt_3b067_13 (str_ok i hi j hj).1 ?_
  refine r_nret rfl (str_ok i hi j hj).2 dJ1_charAt_3b067_14 ?_
  exact ⟨rfl, rfl⟩
set_option maxHeartbeats 8000000 in
set_option maxRecDepth 20000 in
theorem c_charAt {i j : Nat} {x : XS} (hi : i < 25) (hj : j < strN.getD i 0) : MM mJ0_charAt_5068e 3 0 0 [.ref (1000 + i), .int (nI j)] x (fun v x1 => v = some (.int (chV i j)) ∧ x1 = x) NoT := by
  refine MM.ofF (by decide +kernel) (Nat.le_of_ble_eq_true rfl) ?_
  refine r_aload_n dJ0_charAt_5068e_0 rfl (by rfl) ?_
  refine r_callVX (i9 := i) (c_isLatin1 hi) mv_J0_isLatin1_aae02 ml_J0_492 ⟨by decide, by decide⟩ dJ0_charAt_5068e_1 hi rfl rfl (Nat.le_of_ble_eq_true rfl) (fun v9 x9 h9 => ?_)
  obtain ⟨rfl, h9⟩ := h9
  refine PW.xeq h9 ?_
  clear h9 x9
  refine r_if_eqB (tgt := 16) dJ0_charAt_5068e_4 (by decide) (fun h4 => by cases h4) (fun _ => ?_)
  refine r_aload_n dJ0_charAt_5068e_7 rfl (by rfl) ?_
  refine r_strV hi fl_J0_9s dJ0_charAt_5068e_8 ?_
  refine r_iload_n dJ0_charAt_5068e_11 rfl (by rfl) ?_
  refine r_callS (c_charAt1 hi hj) ms_J1_charAt_3b067 ml_J0_495 ⟨by decide, by decide⟩ dJ0_charAt_5068e_12 rfl (Nat.le_of_ble_eq_true rfl) (fun v9 x9 h9 => ?_)
  obtain ⟨rfl, h9⟩ := h9
  refine PW.xeq h9 ?_
  clear h9 x9
  refine r_nret rfl (str_ok i hi j hj).2 dJ0_charAt_5068e_15 ?_
  exact ⟨rfl, rfl⟩
