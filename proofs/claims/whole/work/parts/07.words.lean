/-! the tables' words by their places; a row a field; a name a method -/
set_option maxRecDepth 100000 in
theorem hin_0 : ∀ w ∈ u_ws RX0 TX0 3, w ∈ WS := by decide +kernel
set_option maxRecDepth 100000 in
theorem hin_1 : ∀ w ∈ u_ws RX1 TX1 3, w ∈ WS := by decide +kernel
set_option maxRecDepth 100000 in
theorem hin_2 : ∀ w ∈ u_ws RX2 TX2 2, w ∈ WS := by decide +kernel
set_option maxRecDepth 100000 in
theorem hin_3 : ∀ w ∈ u_ws RX3 TX3 13, w ∈ WS := by decide +kernel
set_option maxRecDepth 100000 in
theorem hin_4 : ∀ w ∈ u_ws RX4 TX4 5, w ∈ WS := by decide +kernel
set_option maxRecDepth 100000 in
theorem hin_5 : ∀ w ∈ u_ws RX5 TX5 3, w ∈ WS := by decide +kernel
set_option maxRecDepth 100000 in
theorem hin_6 : ∀ w ∈ u_ws RX6 TX6 9, w ∈ WS := by decide +kernel
set_option maxRecDepth 100000 in
theorem hin_7 : ∀ w ∈ u_ws RX7 TX7 7, w ∈ WS := by decide +kernel
set_option maxRecDepth 100000 in
theorem hin_8 : ∀ w ∈ u_ws RX8 TX8 7, w ∈ WS := by decide +kernel
set_option maxRecDepth 100000 in
theorem hin_9 : ∀ w ∈ u_ws RX9 TX9 17, w ∈ WS := by decide +kernel
set_option maxRecDepth 100000 in
theorem hin_10 : ∀ w ∈ u_ws RX10 TX10 53, w ∈ WS := by decide +kernel
set_option maxRecDepth 100000 in
theorem fl_X9_10 : Cond.fieldLink RX9 10 (TX9 0).1 (TX9 0).2.1 (TX9 0).2.2.1 ∈ WS := ws_t 319 rfl rfl
theorem gf_X9_10 {M : MD} {R : Room} {mc ms : Nat} {Post : Option Value → XS → Prop} {PT : String → XS → Prop} {pc : Nat} {L : List (Nat × Value)} {st : List Value} {x : XS} {c9 : Nat} {t : List (Option Nat)} {v : Value} (hM : M.1.cls = RX9) (hd : decode M.2.1 pc = .ok (.getfield 10, 3)) (hlay : lay c9 = .inl (9, t)) (hv : fo x c9 0 t = some v) (k : PW M R mc ms Post PT (pc + 3) L (v :: st) x) : PW M R mc ms Post PT pc L (.ref c9 :: st) x := r_get (C9 := RX9) (T := TX9) (N := 17) 0 hin_9 (by rw [hM]; exact fl_X9_10) rfl (by decide) hd hlay hv k
set_option maxRecDepth 100000 in
theorem fl_X9_19 : Cond.fieldLink RX9 19 (TX9 1).1 (TX9 1).2.1 (TX9 1).2.2.1 ∈ WS := ws_t 320 rfl rfl
theorem gf_X9_19 {M : MD} {R : Room} {mc ms : Nat} {Post : Option Value → XS → Prop} {PT : String → XS → Prop} {pc : Nat} {L : List (Nat × Value)} {st : List Value} {x : XS} {c9 : Nat} {t : List (Option Nat)} {v : Value} (hM : M.1.cls = RX9) (hd : decode M.2.1 pc = .ok (.getfield 19, 3)) (hlay : lay c9 = .inl (9, t)) (hv : fo x c9 1 t = some v) (k : PW M R mc ms Post PT (pc + 3) L (v :: st) x) : PW M R mc ms Post PT pc L (.ref c9 :: st) x := r_get (C9 := RX9) (T := TX9) (N := 17) 1 hin_9 (by rw [hM]; exact fl_X9_19) rfl (by decide) hd hlay hv k
set_option maxRecDepth 100000 in
theorem fl_X9_23 : Cond.fieldLink RX9 23 (TX9 2).1 (TX9 2).2.1 (TX9 2).2.2.1 ∈ WS := ws_t 321 rfl rfl
theorem gf_X9_23 {M : MD} {R : Room} {mc ms : Nat} {Post : Option Value → XS → Prop} {PT : String → XS → Prop} {pc : Nat} {L : List (Nat × Value)} {st : List Value} {x : XS} {c9 : Nat} {t : List (Option Nat)} {v : Value} (hM : M.1.cls = RX9) (hd : decode M.2.1 pc = .ok (.getfield 23, 3)) (hlay : lay c9 = .inl (9, t)) (hv : fo x c9 2 t = some v) (k : PW M R mc ms Post PT (pc + 3) L (v :: st) x) : PW M R mc ms Post PT pc L (.ref c9 :: st) x := r_get (C9 := RX9) (T := TX9) (N := 17) 2 hin_9 (by rw [hM]; exact fl_X9_23) rfl (by decide) hd hlay hv k
set_option maxRecDepth 100000 in
theorem fl_X9_29 : Cond.fieldLink RX9 29 (TX9 3).1 (TX9 3).2.1 (TX9 3).2.2.1 ∈ WS := ws_t 322 rfl rfl
theorem gf_X9_29 {M : MD} {R : Room} {mc ms : Nat} {Post : Option Value → XS → Prop} {PT : String → XS → Prop} {pc : Nat} {L : List (Nat × Value)} {st : List Value} {x : XS} {c9 : Nat} {t : List (Option Nat)} {v : Value} (hM : M.1.cls = RX9) (hd : decode M.2.1 pc = .ok (.getfield 29, 3)) (hlay : lay c9 = .inl (9, t)) (hv : fo x c9 3 t = some v) (k : PW M R mc ms Post PT (pc + 3) L (v :: st) x) : PW M R mc ms Post PT pc L (.ref c9 :: st) x := r_get (C9 := RX9) (T := TX9) (N := 17) 3 hin_9 (by rw [hM]; exact fl_X9_29) rfl (by decide) hd hlay hv k
set_option maxRecDepth 100000 in
theorem fl_X9_33 : Cond.fieldLink RX9 33 (TX9 4).1 (TX9 4).2.1 (TX9 4).2.2.1 ∈ WS := ws_t 323 rfl rfl
theorem gf_X9_33 {M : MD} {R : Room} {mc ms : Nat} {Post : Option Value → XS → Prop} {PT : String → XS → Prop} {pc : Nat} {L : List (Nat × Value)} {st : List Value} {x : XS} {c9 : Nat} {t : List (Option Nat)} {v : Value} (hM : M.1.cls = RX9) (hd : decode M.2.1 pc = .ok (.getfield 33, 3)) (hlay : lay c9 = .inl (9, t)) (hv : fo x c9 4 t = some v) (k : PW M R mc ms Post PT (pc + 3) L (v :: st) x) : PW M R mc ms Post PT pc L (.ref c9 :: st) x := r_get (C9 := RX9) (T := TX9) (N := 17) 4 hin_9 (by rw [hM]; exact fl_X9_33) rfl (by decide) hd hlay hv k
set_option maxRecDepth 100000 in
theorem fl_X9_40 : Cond.fieldLink RX9 40 (TX9 5).1 (TX9 5).2.1 (TX9 5).2.2.1 ∈ WS := ws_t 324 rfl rfl
theorem gf_X9_40 {M : MD} {R : Room} {mc ms : Nat} {Post : Option Value → XS → Prop} {PT : String → XS → Prop} {pc : Nat} {L : List (Nat × Value)} {st : List Value} {x : XS} {c9 : Nat} {t : List (Option Nat)} {v : Value} (hM : M.1.cls = RX9) (hd : decode M.2.1 pc = .ok (.getfield 40, 3)) (hlay : lay c9 = .inl (9, t)) (hv : fo x c9 5 t = some v) (k : PW M R mc ms Post PT (pc + 3) L (v :: st) x) : PW M R mc ms Post PT pc L (.ref c9 :: st) x := r_get (C9 := RX9) (T := TX9) (N := 17) 5 hin_9 (by rw [hM]; exact fl_X9_40) rfl (by decide) hd hlay hv k
set_option maxRecDepth 100000 in
theorem fl_X9_44 : Cond.fieldLink RX9 44 (TX9 6).1 (TX9 6).2.1 (TX9 6).2.2.1 ∈ WS := ws_t 325 rfl rfl
theorem gf_X9_44 {M : MD} {R : Room} {mc ms : Nat} {Post : Option Value → XS → Prop} {PT : String → XS → Prop} {pc : Nat} {L : List (Nat × Value)} {st : List Value} {x : XS} {c9 : Nat} {t : List (Option Nat)} {v : Value} (hM : M.1.cls = RX9) (hd : decode M.2.1 pc = .ok (.getfield 44, 3)) (hlay : lay c9 = .inl (9, t)) (hv : fo x c9 6 t = some v) (k : PW M R mc ms Post PT (pc + 3) L (v :: st) x) : PW M R mc ms Post PT pc L (.ref c9 :: st) x := r_get (C9 := RX9) (T := TX9) (N := 17) 6 hin_9 (by rw [hM]; exact fl_X9_44) rfl (by decide) hd hlay hv k
set_option maxRecDepth 100000 in
theorem fl_X9_50 : Cond.fieldLink RX9 50 (TX9 7).1 (TX9 7).2.1 (TX9 7).2.2.1 ∈ WS := ws_t 326 rfl rfl
theorem gf_X9_50 {M : MD} {R : Room} {mc ms : Nat} {Post : Option Value → XS → Prop} {PT : String → XS → Prop} {pc : Nat} {L : List (Nat × Value)} {st : List Value} {x : XS} {c9 : Nat} {t : List (Option Nat)} {v : Value} (hM : M.1.cls = RX9) (hd : decode M.2.1 pc = .ok (.getfield 50, 3)) (hlay : lay c9 = .inl (9, t)) (hv : fo x c9 7 t = some v) (k : PW M R mc ms Post PT (pc + 3) L (v :: st) x) : PW M R mc ms Post PT pc L (.ref c9 :: st) x := r_get (C9 := RX9) (T := TX9) (N := 17) 7 hin_9 (by rw [hM]; exact fl_X9_50) rfl (by decide) hd hlay hv k
set_option maxRecDepth 100000 in
theorem fl_X9_59 : Cond.fieldLink RX9 59 (TX9 8).1 (TX9 8).2.1 (TX9 8).2.2.1 ∈ WS := ws_t 327 rfl rfl
theorem gf_X9_59 {M : MD} {R : Room} {mc ms : Nat} {Post : Option Value → XS → Prop} {PT : String → XS → Prop} {pc : Nat} {L : List (Nat × Value)} {st : List Value} {x : XS} {c9 : Nat} {t : List (Option Nat)} {v : Value} (hM : M.1.cls = RX9) (hd : decode M.2.1 pc = .ok (.getfield 59, 3)) (hlay : lay c9 = .inl (9, t)) (hv : fo x c9 8 t = some v) (k : PW M R mc ms Post PT (pc + 3) L (v :: st) x) : PW M R mc ms Post PT pc L (.ref c9 :: st) x := r_get (C9 := RX9) (T := TX9) (N := 17) 8 hin_9 (by rw [hM]; exact fl_X9_59) rfl (by decide) hd hlay hv k
set_option maxRecDepth 100000 in
theorem fl_X9_63 : Cond.fieldLink RX9 63 (TX9 9).1 (TX9 9).2.1 (TX9 9).2.2.1 ∈ WS := ws_t 328 rfl rfl
theorem gf_X9_63 {M : MD} {R : Room} {mc ms : Nat} {Post : Option Value → XS → Prop} {PT : String → XS → Prop} {pc : Nat} {L : List (Nat × Value)} {st : List Value} {x : XS} {c9 : Nat} {t : List (Option Nat)} {v : Value} (hM : M.1.cls = RX9) (hd : decode M.2.1 pc = .ok (.getfield 63, 3)) (hlay : lay c9 = .inl (9, t)) (hv : fo x c9 9 t = some v) (k : PW M R mc ms Post PT (pc + 3) L (v :: st) x) : PW M R mc ms Post PT pc L (.ref c9 :: st) x := r_get (C9 := RX9) (T := TX9) (N := 17) 9 hin_9 (by rw [hM]; exact fl_X9_63) rfl (by decide) hd hlay hv k
set_option maxRecDepth 100000 in
theorem fl_X9_69 : Cond.fieldLink RX9 69 (TX9 10).1 (TX9 10).2.1 (TX9 10).2.2.1 ∈ WS := ws_t 329 rfl rfl
theorem gf_X9_69 {M : MD} {R : Room} {mc ms : Nat} {Post : Option Value → XS → Prop} {PT : String → XS → Prop} {pc : Nat} {L : List (Nat × Value)} {st : List Value} {x : XS} {c9 : Nat} {t : List (Option Nat)} {v : Value} (hM : M.1.cls = RX9) (hd : decode M.2.1 pc = .ok (.getfield 69, 3)) (hlay : lay c9 = .inl (9, t)) (hv : fo x c9 10 t = some v) (k : PW M R mc ms Post PT (pc + 3) L (v :: st) x) : PW M R mc ms Post PT pc L (.ref c9 :: st) x := r_get (C9 := RX9) (T := TX9) (N := 17) 10 hin_9 (by rw [hM]; exact fl_X9_69) rfl (by decide) hd hlay hv k
set_option maxRecDepth 100000 in
theorem fl_X9_76 : Cond.fieldLink RX9 76 (TX9 11).1 (TX9 11).2.1 (TX9 11).2.2.1 ∈ WS := ws_t 330 rfl rfl
theorem gf_X9_76 {M : MD} {R : Room} {mc ms : Nat} {Post : Option Value → XS → Prop} {PT : String → XS → Prop} {pc : Nat} {L : List (Nat × Value)} {st : List Value} {x : XS} {c9 : Nat} {t : List (Option Nat)} {v : Value} (hM : M.1.cls = RX9) (hd : decode M.2.1 pc = .ok (.getfield 76, 3)) (hlay : lay c9 = .inl (9, t)) (hv : fo x c9 11 t = some v) (k : PW M R mc ms Post PT (pc + 3) L (v :: st) x) : PW M R mc ms Post PT pc L (.ref c9 :: st) x := r_get (C9 := RX9) (T := TX9) (N := 17) 11 hin_9 (by rw [hM]; exact fl_X9_76) rfl (by decide) hd hlay hv k
set_option maxRecDepth 100000 in
theorem fl_X9_83 : Cond.fieldLink RX9 83 (TX9 12).1 (TX9 12).2.1 (TX9 12).2.2.1 ∈ WS := ws_t 331 rfl rfl
theorem gf_X9_83 {M : MD} {R : Room} {mc ms : Nat} {Post : Option Value → XS → Prop} {PT : String → XS → Prop} {pc : Nat} {L : List (Nat × Value)} {st : List Value} {x : XS} {c9 : Nat} {t : List (Option Nat)} {v : Value} (hM : M.1.cls = RX9) (hd : decode M.2.1 pc = .ok (.getfield 83, 3)) (hlay : lay c9 = .inl (9, t)) (hv : fo x c9 12 t = some v) (k : PW M R mc ms Post PT (pc + 3) L (v :: st) x) : PW M R mc ms Post PT pc L (.ref c9 :: st) x := r_get (C9 := RX9) (T := TX9) (N := 17) 12 hin_9 (by rw [hM]; exact fl_X9_83) rfl (by decide) hd hlay hv k
set_option maxRecDepth 100000 in
theorem fl_X9_87 : Cond.fieldLink RX9 87 (TX9 13).1 (TX9 13).2.1 (TX9 13).2.2.1 ∈ WS := ws_t 332 rfl rfl
theorem gf_X9_87 {M : MD} {R : Room} {mc ms : Nat} {Post : Option Value → XS → Prop} {PT : String → XS → Prop} {pc : Nat} {L : List (Nat × Value)} {st : List Value} {x : XS} {c9 : Nat} {t : List (Option Nat)} {v : Value} (hM : M.1.cls = RX9) (hd : decode M.2.1 pc = .ok (.getfield 87, 3)) (hlay : lay c9 = .inl (9, t)) (hv : fo x c9 13 t = some v) (k : PW M R mc ms Post PT (pc + 3) L (v :: st) x) : PW M R mc ms Post PT pc L (.ref c9 :: st) x := r_get (C9 := RX9) (T := TX9) (N := 17) 13 hin_9 (by rw [hM]; exact fl_X9_87) rfl (by decide) hd hlay hv k
set_option maxRecDepth 100000 in
theorem fl_X9_91 : Cond.fieldLink RX9 91 (TX9 14).1 (TX9 14).2.1 (TX9 14).2.2.1 ∈ WS := ws_t 333 rfl rfl
theorem gf_X9_91 {M : MD} {R : Room} {mc ms : Nat} {Post : Option Value → XS → Prop} {PT : String → XS → Prop} {pc : Nat} {L : List (Nat × Value)} {st : List Value} {x : XS} {c9 : Nat} {t : List (Option Nat)} {v : Value} (hM : M.1.cls = RX9) (hd : decode M.2.1 pc = .ok (.getfield 91, 3)) (hlay : lay c9 = .inl (9, t)) (hv : fo x c9 14 t = some v) (k : PW M R mc ms Post PT (pc + 3) L (v :: st) x) : PW M R mc ms Post PT pc L (.ref c9 :: st) x := r_get (C9 := RX9) (T := TX9) (N := 17) 14 hin_9 (by rw [hM]; exact fl_X9_91) rfl (by decide) hd hlay hv k
theorem pf_X9_91 {M : MD} {R : Room} {mc ms : Nat} {Post : Option Value → XS → Prop} {PT : String → XS → Prop} {pc : Nat} {L : List (Nat × Value)} {st : List Value} {x : XS} {c9 : Nat} {t : List (Option Nat)} {v : Int32} (hM : M.1.cls = RX9) (hd : decode M.2.1 pc = .ok (.putfield 91, 3)) (hlay : lay c9 = .inl (9, t)) (hv : t[14]? = some none) (k : PW M R mc ms Post PT (pc + 3) L st (xu x c9 14 v)) : PW M R mc ms Post PT pc L (.int v :: .ref c9 :: st) x := r_put (C9 := RX9) (T := TX9) (N := 17) tyX9 14 hin_9 tyX9_ok nmX9 (by rw [hM]; exact fl_X9_91) rfl (by decide) rfl (by decide +kernel) hd hlay hv k
set_option maxRecDepth 100000 in
theorem fl_X9_95 : Cond.fieldLink RX9 95 (TX9 15).1 (TX9 15).2.1 (TX9 15).2.2.1 ∈ WS := ws_t 334 rfl rfl
theorem gf_X9_95 {M : MD} {R : Room} {mc ms : Nat} {Post : Option Value → XS → Prop} {PT : String → XS → Prop} {pc : Nat} {L : List (Nat × Value)} {st : List Value} {x : XS} {c9 : Nat} {t : List (Option Nat)} {v : Value} (hM : M.1.cls = RX9) (hd : decode M.2.1 pc = .ok (.getfield 95, 3)) (hlay : lay c9 = .inl (9, t)) (hv : fo x c9 15 t = some v) (k : PW M R mc ms Post PT (pc + 3) L (v :: st) x) : PW M R mc ms Post PT pc L (.ref c9 :: st) x := r_get (C9 := RX9) (T := TX9) (N := 17) 15 hin_9 (by rw [hM]; exact fl_X9_95) rfl (by decide) hd hlay hv k
theorem pf_X9_95 {M : MD} {R : Room} {mc ms : Nat} {Post : Option Value → XS → Prop} {PT : String → XS → Prop} {pc : Nat} {L : List (Nat × Value)} {st : List Value} {x : XS} {c9 : Nat} {t : List (Option Nat)} {v : Int32} (hM : M.1.cls = RX9) (hd : decode M.2.1 pc = .ok (.putfield 95, 3)) (hlay : lay c9 = .inl (9, t)) (hv : t[15]? = some none) (k : PW M R mc ms Post PT (pc + 3) L st (xu x c9 15 v)) : PW M R mc ms Post PT pc L (.int v :: .ref c9 :: st) x := r_put (C9 := RX9) (T := TX9) (N := 17) tyX9 15 hin_9 tyX9_ok nmX9 (by rw [hM]; exact fl_X9_95) rfl (by decide) rfl (by decide +kernel) hd hlay hv k
set_option maxRecDepth 100000 in
theorem fl_X9_98 : Cond.fieldLink RX9 98 (TX9 16).1 (TX9 16).2.1 (TX9 16).2.2.1 ∈ WS := ws_t 335 rfl rfl
theorem gf_X9_98 {M : MD} {R : Room} {mc ms : Nat} {Post : Option Value → XS → Prop} {PT : String → XS → Prop} {pc : Nat} {L : List (Nat × Value)} {st : List Value} {x : XS} {c9 : Nat} {t : List (Option Nat)} {v : Value} (hM : M.1.cls = RX9) (hd : decode M.2.1 pc = .ok (.getfield 98, 3)) (hlay : lay c9 = .inl (9, t)) (hv : fo x c9 16 t = some v) (k : PW M R mc ms Post PT (pc + 3) L (v :: st) x) : PW M R mc ms Post PT pc L (.ref c9 :: st) x := r_get (C9 := RX9) (T := TX9) (N := 17) 16 hin_9 (by rw [hM]; exact fl_X9_98) rfl (by decide) hd hlay hv k
theorem pf_X9_98 {M : MD} {R : Room} {mc ms : Nat} {Post : Option Value → XS → Prop} {PT : String → XS → Prop} {pc : Nat} {L : List (Nat × Value)} {st : List Value} {x : XS} {c9 : Nat} {t : List (Option Nat)} {v : Int32} (hM : M.1.cls = RX9) (hd : decode M.2.1 pc = .ok (.putfield 98, 3)) (hlay : lay c9 = .inl (9, t)) (hv : t[16]? = some none) (k : PW M R mc ms Post PT (pc + 3) L st (xu x c9 16 v)) : PW M R mc ms Post PT pc L (.int v :: .ref c9 :: st) x := r_put (C9 := RX9) (T := TX9) (N := 17) tyX9 16 hin_9 tyX9_ok nmX9 (by rw [hM]; exact fl_X9_98) rfl (by decide) rfl (by decide +kernel) hd hlay hv k
set_option maxRecDepth 100000 in
theorem fl_X9_118 : Cond.fieldLink RX9 118 (TX8 1).1 (TX8 1).2.1 (TX8 1).2.2.1 ∈ WS := ws_t 40 rfl rfl
theorem gf_X9_118 {M : MD} {R : Room} {mc ms : Nat} {Post : Option Value → XS → Prop} {PT : String → XS → Prop} {pc : Nat} {L : List (Nat × Value)} {st : List Value} {x : XS} {c9 : Nat} {t : List (Option Nat)} {v : Value} (hM : M.1.cls = RX9) (hd : decode M.2.1 pc = .ok (.getfield 118, 3)) (hlay : lay c9 = .inl (8, t)) (hv : fo x c9 1 t = some v) (k : PW M R mc ms Post PT (pc + 3) L (v :: st) x) : PW M R mc ms Post PT pc L (.ref c9 :: st) x := r_get (C9 := RX8) (T := TX8) (N := 7) 1 hin_8 (by rw [hM]; exact fl_X9_118) rfl (by decide) hd hlay hv k
theorem pf_X9_118 {M : MD} {R : Room} {mc ms : Nat} {Post : Option Value → XS → Prop} {PT : String → XS → Prop} {pc : Nat} {L : List (Nat × Value)} {st : List Value} {x : XS} {c9 : Nat} {t : List (Option Nat)} {v : Int32} (hM : M.1.cls = RX9) (hd : decode M.2.1 pc = .ok (.putfield 118, 3)) (hlay : lay c9 = .inl (8, t)) (hv : t[1]? = some none) (k : PW M R mc ms Post PT (pc + 3) L st (xu x c9 1 v)) : PW M R mc ms Post PT pc L (.int v :: .ref c9 :: st) x := r_put (C9 := RX8) (T := TX8) (N := 7) tyX8 1 hin_8 tyX8_ok nmX8 (by rw [hM]; exact fl_X9_118) rfl (by decide) rfl (by decide +kernel) hd hlay hv k
set_option maxRecDepth 100000 in
theorem fl_X9_129 : Cond.fieldLink RX9 129 (TX8 4).1 (TX8 4).2.1 (TX8 4).2.2.1 ∈ WS := ws_t 44 rfl rfl
theorem gf_X9_129 {M : MD} {R : Room} {mc ms : Nat} {Post : Option Value → XS → Prop} {PT : String → XS → Prop} {pc : Nat} {L : List (Nat × Value)} {st : List Value} {x : XS} {c9 : Nat} {t : List (Option Nat)} {v : Value} (hM : M.1.cls = RX9) (hd : decode M.2.1 pc = .ok (.getfield 129, 3)) (hlay : lay c9 = .inl (8, t)) (hv : fo x c9 4 t = some v) (k : PW M R mc ms Post PT (pc + 3) L (v :: st) x) : PW M R mc ms Post PT pc L (.ref c9 :: st) x := r_get (C9 := RX8) (T := TX8) (N := 7) 4 hin_8 (by rw [hM]; exact fl_X9_129) rfl (by decide) hd hlay hv k
theorem pf_X9_129 {M : MD} {R : Room} {mc ms : Nat} {Post : Option Value → XS → Prop} {PT : String → XS → Prop} {pc : Nat} {L : List (Nat × Value)} {st : List Value} {x : XS} {c9 : Nat} {t : List (Option Nat)} {v : Int32} (hM : M.1.cls = RX9) (hd : decode M.2.1 pc = .ok (.putfield 129, 3)) (hlay : lay c9 = .inl (8, t)) (hv : t[4]? = some none) (k : PW M R mc ms Post PT (pc + 3) L st (xu x c9 4 v)) : PW M R mc ms Post PT pc L (.int v :: .ref c9 :: st) x := r_put (C9 := RX8) (T := TX8) (N := 7) tyX8 4 hin_8 tyX8_ok nmX8 (by rw [hM]; exact fl_X9_129) rfl (by decide) rfl (by decide +kernel) hd hlay hv k
set_option maxRecDepth 100000 in
theorem fl_X9_136 : Cond.fieldLink RX9 136 (TX1 2).1 (TX1 2).2.1 (TX1 2).2.2.1 ∈ WS := ws_t 157 rfl rfl
theorem gf_X9_136 {M : MD} {R : Room} {mc ms : Nat} {Post : Option Value → XS → Prop} {PT : String → XS → Prop} {pc : Nat} {L : List (Nat × Value)} {st : List Value} {x : XS} {c9 : Nat} {t : List (Option Nat)} {v : Value} (hM : M.1.cls = RX9) (hd : decode M.2.1 pc = .ok (.getfield 136, 3)) (hlay : lay c9 = .inl (1, t)) (hv : fo x c9 2 t = some v) (k : PW M R mc ms Post PT (pc + 3) L (v :: st) x) : PW M R mc ms Post PT pc L (.ref c9 :: st) x := r_get (C9 := RX1) (T := TX1) (N := 3) 2 hin_1 (by rw [hM]; exact fl_X9_136) rfl (by decide) hd hlay hv k
theorem pf_X9_136 {M : MD} {R : Room} {mc ms : Nat} {Post : Option Value → XS → Prop} {PT : String → XS → Prop} {pc : Nat} {L : List (Nat × Value)} {st : List Value} {x : XS} {c9 : Nat} {t : List (Option Nat)} {v : Int32} (hM : M.1.cls = RX9) (hd : decode M.2.1 pc = .ok (.putfield 136, 3)) (hlay : lay c9 = .inl (1, t)) (hv : t[2]? = some none) (k : PW M R mc ms Post PT (pc + 3) L st (xu x c9 2 v)) : PW M R mc ms Post PT pc L (.int v :: .ref c9 :: st) x := r_put (C9 := RX1) (T := TX1) (N := 3) tyX1 2 hin_1 tyX1_ok nmX1 (by rw [hM]; exact fl_X9_136) rfl (by decide) rfl (by decide +kernel) hd hlay hv k
set_option maxRecDepth 100000 in
theorem fl_X9_139 : Cond.fieldLink RX9 139 (TX2 1).1 (TX2 1).2.1 (TX2 1).2.2.1 ∈ WS := ws_t 244 rfl rfl
theorem gf_X9_139 {M : MD} {R : Room} {mc ms : Nat} {Post : Option Value → XS → Prop} {PT : String → XS → Prop} {pc : Nat} {L : List (Nat × Value)} {st : List Value} {x : XS} {c9 : Nat} {t : List (Option Nat)} {v : Value} (hM : M.1.cls = RX9) (hd : decode M.2.1 pc = .ok (.getfield 139, 3)) (hlay : lay c9 = .inl (2, t)) (hv : fo x c9 1 t = some v) (k : PW M R mc ms Post PT (pc + 3) L (v :: st) x) : PW M R mc ms Post PT pc L (.ref c9 :: st) x := r_get (C9 := RX2) (T := TX2) (N := 2) 1 hin_2 (by rw [hM]; exact fl_X9_139) rfl (by decide) hd hlay hv k
theorem pf_X9_139 {M : MD} {R : Room} {mc ms : Nat} {Post : Option Value → XS → Prop} {PT : String → XS → Prop} {pc : Nat} {L : List (Nat × Value)} {st : List Value} {x : XS} {c9 : Nat} {t : List (Option Nat)} {v : Int32} (hM : M.1.cls = RX9) (hd : decode M.2.1 pc = .ok (.putfield 139, 3)) (hlay : lay c9 = .inl (2, t)) (hv : t[1]? = some none) (k : PW M R mc ms Post PT (pc + 3) L st (xu x c9 1 v)) : PW M R mc ms Post PT pc L (.int v :: .ref c9 :: st) x := r_put (C9 := RX2) (T := TX2) (N := 2) tyX2 1 hin_2 tyX2_ok nmX2 (by rw [hM]; exact fl_X9_139) rfl (by decide) rfl (by decide +kernel) hd hlay hv k
set_option maxRecDepth 100000 in
theorem fl_X9_140 : Cond.fieldLink RX9 140 (TX0 2).1 (TX0 2).2.1 (TX0 2).2.2.1 ∈ WS := ws_t 263 rfl rfl
theorem gf_X9_140 {M : MD} {R : Room} {mc ms : Nat} {Post : Option Value → XS → Prop} {PT : String → XS → Prop} {pc : Nat} {L : List (Nat × Value)} {st : List Value} {x : XS} {c9 : Nat} {t : List (Option Nat)} {v : Value} (hM : M.1.cls = RX9) (hd : decode M.2.1 pc = .ok (.getfield 140, 3)) (hlay : lay c9 = .inl (0, t)) (hv : fo x c9 2 t = some v) (k : PW M R mc ms Post PT (pc + 3) L (v :: st) x) : PW M R mc ms Post PT pc L (.ref c9 :: st) x := r_get (C9 := RX0) (T := TX0) (N := 3) 2 hin_0 (by rw [hM]; exact fl_X9_140) rfl (by decide) hd hlay hv k
theorem pf_X9_140 {M : MD} {R : Room} {mc ms : Nat} {Post : Option Value → XS → Prop} {PT : String → XS → Prop} {pc : Nat} {L : List (Nat × Value)} {st : List Value} {x : XS} {c9 : Nat} {t : List (Option Nat)} {v : Int32} (hM : M.1.cls = RX9) (hd : decode M.2.1 pc = .ok (.putfield 140, 3)) (hlay : lay c9 = .inl (0, t)) (hv : t[2]? = some none) (k : PW M R mc ms Post PT (pc + 3) L st (xu x c9 2 v)) : PW M R mc ms Post PT pc L (.int v :: .ref c9 :: st) x := r_put (C9 := RX0) (T := TX0) (N := 3) tyX0 2 hin_0 tyX0_ok nmX0 (by rw [hM]; exact fl_X9_140) rfl (by decide) rfl (by decide +kernel) hd hlay hv k
set_option maxRecDepth 100000 in
theorem fl_X9_141 : Cond.fieldLink RX9 141 (TX3 0).1 (TX3 0).2.1 (TX3 0).2.2.1 ∈ WS := ws_t 76 rfl rfl
theorem gf_X9_141 {M : MD} {R : Room} {mc ms : Nat} {Post : Option Value → XS → Prop} {PT : String → XS → Prop} {pc : Nat} {L : List (Nat × Value)} {st : List Value} {x : XS} {c9 : Nat} {t : List (Option Nat)} {v : Value} (hM : M.1.cls = RX9) (hd : decode M.2.1 pc = .ok (.getfield 141, 3)) (hlay : lay c9 = .inl (3, t)) (hv : fo x c9 0 t = some v) (k : PW M R mc ms Post PT (pc + 3) L (v :: st) x) : PW M R mc ms Post PT pc L (.ref c9 :: st) x := r_get (C9 := RX3) (T := TX3) (N := 13) 0 hin_3 (by rw [hM]; exact fl_X9_141) rfl (by decide) hd hlay hv k
theorem pf_X9_141 {M : MD} {R : Room} {mc ms : Nat} {Post : Option Value → XS → Prop} {PT : String → XS → Prop} {pc : Nat} {L : List (Nat × Value)} {st : List Value} {x : XS} {c9 : Nat} {t : List (Option Nat)} {v : Int32} (hM : M.1.cls = RX9) (hd : decode M.2.1 pc = .ok (.putfield 141, 3)) (hlay : lay c9 = .inl (3, t)) (hv : t[0]? = some none) (k : PW M R mc ms Post PT (pc + 3) L st (xu x c9 0 v)) : PW M R mc ms Post PT pc L (.int v :: .ref c9 :: st) x := r_put (C9 := RX3) (T := TX3) (N := 13) tyX3 0 hin_3 tyX3_ok nmX3 (by rw [hM]; exact fl_X9_141) rfl (by decide) rfl (by decide +kernel) hd hlay hv k
set_option maxRecDepth 100000 in
theorem fl_X9_162 : Cond.fieldLink RX9 162 (TX6 2).1 (TX6 2).2.1 (TX6 2).2.2.1 ∈ WS := ws_t 205 rfl rfl
theorem gf_X9_162 {M : MD} {R : Room} {mc ms : Nat} {Post : Option Value → XS → Prop} {PT : String → XS → Prop} {pc : Nat} {L : List (Nat × Value)} {st : List Value} {x : XS} {c9 : Nat} {t : List (Option Nat)} {v : Value} (hM : M.1.cls = RX9) (hd : decode M.2.1 pc = .ok (.getfield 162, 3)) (hlay : lay c9 = .inl (6, t)) (hv : fo x c9 2 t = some v) (k : PW M R mc ms Post PT (pc + 3) L (v :: st) x) : PW M R mc ms Post PT pc L (.ref c9 :: st) x := r_get (C9 := RX6) (T := TX6) (N := 9) 2 hin_6 (by rw [hM]; exact fl_X9_162) rfl (by decide) hd hlay hv k
set_option maxRecDepth 100000 in
theorem fl_X9_169 : Cond.fieldLink RX9 169 (TX7 3).1 (TX7 3).2.1 (TX7 3).2.2.1 ∈ WS := ws_t 175 rfl rfl
theorem gf_X9_169 {M : MD} {R : Room} {mc ms : Nat} {Post : Option Value → XS → Prop} {PT : String → XS → Prop} {pc : Nat} {L : List (Nat × Value)} {st : List Value} {x : XS} {c9 : Nat} {t : List (Option Nat)} {v : Value} (hM : M.1.cls = RX9) (hd : decode M.2.1 pc = .ok (.getfield 169, 3)) (hlay : lay c9 = .inl (7, t)) (hv : fo x c9 3 t = some v) (k : PW M R mc ms Post PT (pc + 3) L (v :: st) x) : PW M R mc ms Post PT pc L (.ref c9 :: st) x := r_get (C9 := RX7) (T := TX7) (N := 7) 3 hin_7 (by rw [hM]; exact fl_X9_169) rfl (by decide) hd hlay hv k
theorem pf_X9_169 {M : MD} {R : Room} {mc ms : Nat} {Post : Option Value → XS → Prop} {PT : String → XS → Prop} {pc : Nat} {L : List (Nat × Value)} {st : List Value} {x : XS} {c9 : Nat} {t : List (Option Nat)} {v : Int32} (hM : M.1.cls = RX9) (hd : decode M.2.1 pc = .ok (.putfield 169, 3)) (hlay : lay c9 = .inl (7, t)) (hv : t[3]? = some none) (k : PW M R mc ms Post PT (pc + 3) L st (xu x c9 3 v)) : PW M R mc ms Post PT pc L (.int v :: .ref c9 :: st) x := r_put (C9 := RX7) (T := TX7) (N := 7) tyX7 3 hin_7 tyX7_ok nmX7 (by rw [hM]; exact fl_X9_169) rfl (by decide) rfl (by decide +kernel) hd hlay hv k
set_option maxRecDepth 100000 in
theorem fl_X9_174 : Cond.fieldLink RX9 174 (TX7 6).1 (TX7 6).2.1 (TX7 6).2.2.1 ∈ WS := ws_t 180 rfl rfl
theorem gf_X9_174 {M : MD} {R : Room} {mc ms : Nat} {Post : Option Value → XS → Prop} {PT : String → XS → Prop} {pc : Nat} {L : List (Nat × Value)} {st : List Value} {x : XS} {c9 : Nat} {t : List (Option Nat)} {v : Value} (hM : M.1.cls = RX9) (hd : decode M.2.1 pc = .ok (.getfield 174, 3)) (hlay : lay c9 = .inl (7, t)) (hv : fo x c9 6 t = some v) (k : PW M R mc ms Post PT (pc + 3) L (v :: st) x) : PW M R mc ms Post PT pc L (.ref c9 :: st) x := r_get (C9 := RX7) (T := TX7) (N := 7) 6 hin_7 (by rw [hM]; exact fl_X9_174) rfl (by decide) hd hlay hv k
theorem pf_X9_174 {M : MD} {R : Room} {mc ms : Nat} {Post : Option Value → XS → Prop} {PT : String → XS → Prop} {pc : Nat} {L : List (Nat × Value)} {st : List Value} {x : XS} {c9 : Nat} {t : List (Option Nat)} {v : Int32} (hM : M.1.cls = RX9) (hd : decode M.2.1 pc = .ok (.putfield 174, 3)) (hlay : lay c9 = .inl (7, t)) (hv : t[6]? = some none) (k : PW M R mc ms Post PT (pc + 3) L st (xu x c9 6 v)) : PW M R mc ms Post PT pc L (.int v :: .ref c9 :: st) x := r_put (C9 := RX7) (T := TX7) (N := 7) tyX7 6 hin_7 tyX7_ok nmX7 (by rw [hM]; exact fl_X9_174) rfl (by decide) rfl (by decide +kernel) hd hlay hv k
set_option maxRecDepth 100000 in
theorem fl_X9_177 : Cond.fieldLink RX9 177 (TX7 5).1 (TX7 5).2.1 (TX7 5).2.2.1 ∈ WS := ws_t 178 rfl rfl
theorem gf_X9_177 {M : MD} {R : Room} {mc ms : Nat} {Post : Option Value → XS → Prop} {PT : String → XS → Prop} {pc : Nat} {L : List (Nat × Value)} {st : List Value} {x : XS} {c9 : Nat} {t : List (Option Nat)} {v : Value} (hM : M.1.cls = RX9) (hd : decode M.2.1 pc = .ok (.getfield 177, 3)) (hlay : lay c9 = .inl (7, t)) (hv : fo x c9 5 t = some v) (k : PW M R mc ms Post PT (pc + 3) L (v :: st) x) : PW M R mc ms Post PT pc L (.ref c9 :: st) x := r_get (C9 := RX7) (T := TX7) (N := 7) 5 hin_7 (by rw [hM]; exact fl_X9_177) rfl (by decide) hd hlay hv k
theorem pf_X9_177 {M : MD} {R : Room} {mc ms : Nat} {Post : Option Value → XS → Prop} {PT : String → XS → Prop} {pc : Nat} {L : List (Nat × Value)} {st : List Value} {x : XS} {c9 : Nat} {t : List (Option Nat)} {v : Int32} (hM : M.1.cls = RX9) (hd : decode M.2.1 pc = .ok (.putfield 177, 3)) (hlay : lay c9 = .inl (7, t)) (hv : t[5]? = some none) (k : PW M R mc ms Post PT (pc + 3) L st (xu x c9 5 v)) : PW M R mc ms Post PT pc L (.int v :: .ref c9 :: st) x := r_put (C9 := RX7) (T := TX7) (N := 7) tyX7 5 hin_7 tyX7_ok nmX7 (by rw [hM]; exact fl_X9_177) rfl (by decide) rfl (by decide +kernel) hd hlay hv k
set_option maxRecDepth 100000 in
theorem fl_X9_184 : Cond.fieldLink RX9 184 (TX8 5).1 (TX8 5).2.1 (TX8 5).2.2.1 ∈ WS := ws_t 46 rfl rfl
theorem gf_X9_184 {M : MD} {R : Room} {mc ms : Nat} {Post : Option Value → XS → Prop} {PT : String → XS → Prop} {pc : Nat} {L : List (Nat × Value)} {st : List Value} {x : XS} {c9 : Nat} {t : List (Option Nat)} {v : Value} (hM : M.1.cls = RX9) (hd : decode M.2.1 pc = .ok (.getfield 184, 3)) (hlay : lay c9 = .inl (8, t)) (hv : fo x c9 5 t = some v) (k : PW M R mc ms Post PT (pc + 3) L (v :: st) x) : PW M R mc ms Post PT pc L (.ref c9 :: st) x := r_get (C9 := RX8) (T := TX8) (N := 7) 5 hin_8 (by rw [hM]; exact fl_X9_184) rfl (by decide) hd hlay hv k
theorem pf_X9_184 {M : MD} {R : Room} {mc ms : Nat} {Post : Option Value → XS → Prop} {PT : String → XS → Prop} {pc : Nat} {L : List (Nat × Value)} {st : List Value} {x : XS} {c9 : Nat} {t : List (Option Nat)} {v : Int32} (hM : M.1.cls = RX9) (hd : decode M.2.1 pc = .ok (.putfield 184, 3)) (hlay : lay c9 = .inl (8, t)) (hv : t[5]? = some none) (k : PW M R mc ms Post PT (pc + 3) L st (xu x c9 5 v)) : PW M R mc ms Post PT pc L (.int v :: .ref c9 :: st) x := r_put (C9 := RX8) (T := TX8) (N := 7) tyX8 5 hin_8 tyX8_ok nmX8 (by rw [hM]; exact fl_X9_184) rfl (by decide) rfl (by decide +kernel) hd hlay hv k
set_option maxRecDepth 100000 in
theorem fl_X9_197 : Cond.fieldLink RX9 197 (TX3 11).1 (TX3 11).2.1 (TX3 11).2.2.1 ∈ WS := ws_t 99 rfl rfl
theorem gf_X9_197 {M : MD} {R : Room} {mc ms : Nat} {Post : Option Value → XS → Prop} {PT : String → XS → Prop} {pc : Nat} {L : List (Nat × Value)} {st : List Value} {x : XS} {c9 : Nat} {t : List (Option Nat)} {v : Value} (hM : M.1.cls = RX9) (hd : decode M.2.1 pc = .ok (.getfield 197, 3)) (hlay : lay c9 = .inl (3, t)) (hv : fo x c9 11 t = some v) (k : PW M R mc ms Post PT (pc + 3) L (v :: st) x) : PW M R mc ms Post PT pc L (.ref c9 :: st) x := r_get (C9 := RX3) (T := TX3) (N := 13) 11 hin_3 (by rw [hM]; exact fl_X9_197) rfl (by decide) hd hlay hv k
theorem pf_X9_197 {M : MD} {R : Room} {mc ms : Nat} {Post : Option Value → XS → Prop} {PT : String → XS → Prop} {pc : Nat} {L : List (Nat × Value)} {st : List Value} {x : XS} {c9 : Nat} {t : List (Option Nat)} {v : Int32} (hM : M.1.cls = RX9) (hd : decode M.2.1 pc = .ok (.putfield 197, 3)) (hlay : lay c9 = .inl (3, t)) (hv : t[11]? = some none) (k : PW M R mc ms Post PT (pc + 3) L st (xu x c9 11 v)) : PW M R mc ms Post PT pc L (.int v :: .ref c9 :: st) x := r_put (C9 := RX3) (T := TX3) (N := 13) tyX3 11 hin_3 tyX3_ok nmX3 (by rw [hM]; exact fl_X9_197) rfl (by decide) rfl (by decide +kernel) hd hlay hv k
set_option maxRecDepth 100000 in
theorem fl_X9_203 : Cond.fieldLink RX9 203 (TX3 2).1 (TX3 2).2.1 (TX3 2).2.2.1 ∈ WS := ws_t 80 rfl rfl
theorem gf_X9_203 {M : MD} {R : Room} {mc ms : Nat} {Post : Option Value → XS → Prop} {PT : String → XS → Prop} {pc : Nat} {L : List (Nat × Value)} {st : List Value} {x : XS} {c9 : Nat} {t : List (Option Nat)} {v : Value} (hM : M.1.cls = RX9) (hd : decode M.2.1 pc = .ok (.getfield 203, 3)) (hlay : lay c9 = .inl (3, t)) (hv : fo x c9 2 t = some v) (k : PW M R mc ms Post PT (pc + 3) L (v :: st) x) : PW M R mc ms Post PT pc L (.ref c9 :: st) x := r_get (C9 := RX3) (T := TX3) (N := 13) 2 hin_3 (by rw [hM]; exact fl_X9_203) rfl (by decide) hd hlay hv k
set_option maxRecDepth 100000 in
theorem fl_X9_206 : Cond.fieldLink RX9 206 (TX3 3).1 (TX3 3).2.1 (TX3 3).2.2.1 ∈ WS := ws_t 83 rfl rfl
theorem gf_X9_206 {M : MD} {R : Room} {mc ms : Nat} {Post : Option Value → XS → Prop} {PT : String → XS → Prop} {pc : Nat} {L : List (Nat × Value)} {st : List Value} {x : XS} {c9 : Nat} {t : List (Option Nat)} {v : Value} (hM : M.1.cls = RX9) (hd : decode M.2.1 pc = .ok (.getfield 206, 3)) (hlay : lay c9 = .inl (3, t)) (hv : fo x c9 3 t = some v) (k : PW M R mc ms Post PT (pc + 3) L (v :: st) x) : PW M R mc ms Post PT pc L (.ref c9 :: st) x := r_get (C9 := RX3) (T := TX3) (N := 13) 3 hin_3 (by rw [hM]; exact fl_X9_206) rfl (by decide) hd hlay hv k
set_option maxRecDepth 100000 in
theorem fl_X9_209 : Cond.fieldLink RX9 209 (TX3 8).1 (TX3 8).2.1 (TX3 8).2.2.1 ∈ WS := ws_t 94 rfl rfl
theorem gf_X9_209 {M : MD} {R : Room} {mc ms : Nat} {Post : Option Value → XS → Prop} {PT : String → XS → Prop} {pc : Nat} {L : List (Nat × Value)} {st : List Value} {x : XS} {c9 : Nat} {t : List (Option Nat)} {v : Value} (hM : M.1.cls = RX9) (hd : decode M.2.1 pc = .ok (.getfield 209, 3)) (hlay : lay c9 = .inl (3, t)) (hv : fo x c9 8 t = some v) (k : PW M R mc ms Post PT (pc + 3) L (v :: st) x) : PW M R mc ms Post PT pc L (.ref c9 :: st) x := r_get (C9 := RX3) (T := TX3) (N := 13) 8 hin_3 (by rw [hM]; exact fl_X9_209) rfl (by decide) hd hlay hv k
set_option maxRecDepth 100000 in
theorem fl_X9_225 : Cond.fieldLink RX9 225 (TX6 5).1 (TX6 5).2.1 (TX6 5).2.2.1 ∈ WS := ws_t 209 rfl rfl
theorem gf_X9_225 {M : MD} {R : Room} {mc ms : Nat} {Post : Option Value → XS → Prop} {PT : String → XS → Prop} {pc : Nat} {L : List (Nat × Value)} {st : List Value} {x : XS} {c9 : Nat} {t : List (Option Nat)} {v : Value} (hM : M.1.cls = RX9) (hd : decode M.2.1 pc = .ok (.getfield 225, 3)) (hlay : lay c9 = .inl (6, t)) (hv : fo x c9 5 t = some v) (k : PW M R mc ms Post PT (pc + 3) L (v :: st) x) : PW M R mc ms Post PT pc L (.ref c9 :: st) x := r_get (C9 := RX6) (T := TX6) (N := 9) 5 hin_6 (by rw [hM]; exact fl_X9_225) rfl (by decide) hd hlay hv k
set_option maxRecDepth 100000 in
theorem fl_X9_274 : Cond.fieldLink RX9 274 (TX4 2).1 (TX4 2).2.1 (TX4 2).2.2.1 ∈ WS := ws_t 280 rfl rfl
theorem gf_X9_274 {M : MD} {R : Room} {mc ms : Nat} {Post : Option Value → XS → Prop} {PT : String → XS → Prop} {pc : Nat} {L : List (Nat × Value)} {st : List Value} {x : XS} {c9 : Nat} {t : List (Option Nat)} {v : Value} (hM : M.1.cls = RX9) (hd : decode M.2.1 pc = .ok (.getfield 274, 3)) (hlay : lay c9 = .inl (4, t)) (hv : fo x c9 2 t = some v) (k : PW M R mc ms Post PT (pc + 3) L (v :: st) x) : PW M R mc ms Post PT pc L (.ref c9 :: st) x := r_get (C9 := RX4) (T := TX4) (N := 5) 2 hin_4 (by rw [hM]; exact fl_X9_274) rfl (by decide) hd hlay hv k
theorem pf_X9_274 {M : MD} {R : Room} {mc ms : Nat} {Post : Option Value → XS → Prop} {PT : String → XS → Prop} {pc : Nat} {L : List (Nat × Value)} {st : List Value} {x : XS} {c9 : Nat} {t : List (Option Nat)} {v : Int32} (hM : M.1.cls = RX9) (hd : decode M.2.1 pc = .ok (.putfield 274, 3)) (hlay : lay c9 = .inl (4, t)) (hv : t[2]? = some none) (k : PW M R mc ms Post PT (pc + 3) L st (xu x c9 2 v)) : PW M R mc ms Post PT pc L (.int v :: .ref c9 :: st) x := r_put (C9 := RX4) (T := TX4) (N := 5) tyX4 2 hin_4 tyX4_ok nmX4 (by rw [hM]; exact fl_X9_274) rfl (by decide) rfl (by decide +kernel) hd hlay hv k
set_option maxRecDepth 100000 in
theorem fl_X9_277 : Cond.fieldLink RX9 277 (TX4 3).1 (TX4 3).2.1 (TX4 3).2.2.1 ∈ WS := ws_t 282 rfl rfl
theorem gf_X9_277 {M : MD} {R : Room} {mc ms : Nat} {Post : Option Value → XS → Prop} {PT : String → XS → Prop} {pc : Nat} {L : List (Nat × Value)} {st : List Value} {x : XS} {c9 : Nat} {t : List (Option Nat)} {v : Value} (hM : M.1.cls = RX9) (hd : decode M.2.1 pc = .ok (.getfield 277, 3)) (hlay : lay c9 = .inl (4, t)) (hv : fo x c9 3 t = some v) (k : PW M R mc ms Post PT (pc + 3) L (v :: st) x) : PW M R mc ms Post PT pc L (.ref c9 :: st) x := r_get (C9 := RX4) (T := TX4) (N := 5) 3 hin_4 (by rw [hM]; exact fl_X9_277) rfl (by decide) hd hlay hv k
theorem pf_X9_277 {M : MD} {R : Room} {mc ms : Nat} {Post : Option Value → XS → Prop} {PT : String → XS → Prop} {pc : Nat} {L : List (Nat × Value)} {st : List Value} {x : XS} {c9 : Nat} {t : List (Option Nat)} {v : Int32} (hM : M.1.cls = RX9) (hd : decode M.2.1 pc = .ok (.putfield 277, 3)) (hlay : lay c9 = .inl (4, t)) (hv : t[3]? = some none) (k : PW M R mc ms Post PT (pc + 3) L st (xu x c9 3 v)) : PW M R mc ms Post PT pc L (.int v :: .ref c9 :: st) x := r_put (C9 := RX4) (T := TX4) (N := 5) tyX4 3 hin_4 tyX4_ok nmX4 (by rw [hM]; exact fl_X9_277) rfl (by decide) rfl (by decide +kernel) hd hlay hv k
set_option maxRecDepth 100000 in
theorem fl_X9_280 : Cond.fieldLink RX9 280 (TX4 4).1 (TX4 4).2.1 (TX4 4).2.2.1 ∈ WS := ws_t 284 rfl rfl
theorem gf_X9_280 {M : MD} {R : Room} {mc ms : Nat} {Post : Option Value → XS → Prop} {PT : String → XS → Prop} {pc : Nat} {L : List (Nat × Value)} {st : List Value} {x : XS} {c9 : Nat} {t : List (Option Nat)} {v : Value} (hM : M.1.cls = RX9) (hd : decode M.2.1 pc = .ok (.getfield 280, 3)) (hlay : lay c9 = .inl (4, t)) (hv : fo x c9 4 t = some v) (k : PW M R mc ms Post PT (pc + 3) L (v :: st) x) : PW M R mc ms Post PT pc L (.ref c9 :: st) x := r_get (C9 := RX4) (T := TX4) (N := 5) 4 hin_4 (by rw [hM]; exact fl_X9_280) rfl (by decide) hd hlay hv k
theorem pf_X9_280 {M : MD} {R : Room} {mc ms : Nat} {Post : Option Value → XS → Prop} {PT : String → XS → Prop} {pc : Nat} {L : List (Nat × Value)} {st : List Value} {x : XS} {c9 : Nat} {t : List (Option Nat)} {v : Int32} (hM : M.1.cls = RX9) (hd : decode M.2.1 pc = .ok (.putfield 280, 3)) (hlay : lay c9 = .inl (4, t)) (hv : t[4]? = some none) (k : PW M R mc ms Post PT (pc + 3) L st (xu x c9 4 v)) : PW M R mc ms Post PT pc L (.int v :: .ref c9 :: st) x := r_put (C9 := RX4) (T := TX4) (N := 5) tyX4 4 hin_4 tyX4_ok nmX4 (by rw [hM]; exact fl_X9_280) rfl (by decide) rfl (by decide +kernel) hd hlay hv k
set_option maxRecDepth 100000 in
theorem fl_X9_319 : Cond.fieldLink RX9 319 (TX6 7).1 (TX6 7).2.1 (TX6 7).2.2.1 ∈ WS := ws_t 212 rfl rfl
theorem gf_X9_319 {M : MD} {R : Room} {mc ms : Nat} {Post : Option Value → XS → Prop} {PT : String → XS → Prop} {pc : Nat} {L : List (Nat × Value)} {st : List Value} {x : XS} {c9 : Nat} {t : List (Option Nat)} {v : Value} (hM : M.1.cls = RX9) (hd : decode M.2.1 pc = .ok (.getfield 319, 3)) (hlay : lay c9 = .inl (6, t)) (hv : fo x c9 7 t = some v) (k : PW M R mc ms Post PT (pc + 3) L (v :: st) x) : PW M R mc ms Post PT pc L (.ref c9 :: st) x := r_get (C9 := RX6) (T := TX6) (N := 9) 7 hin_6 (by rw [hM]; exact fl_X9_319) rfl (by decide) hd hlay hv k
theorem pf_X9_319 {M : MD} {R : Room} {mc ms : Nat} {Post : Option Value → XS → Prop} {PT : String → XS → Prop} {pc : Nat} {L : List (Nat × Value)} {st : List Value} {x : XS} {c9 : Nat} {t : List (Option Nat)} {v : Int32} (hM : M.1.cls = RX9) (hd : decode M.2.1 pc = .ok (.putfield 319, 3)) (hlay : lay c9 = .inl (6, t)) (hv : t[7]? = some none) (k : PW M R mc ms Post PT (pc + 3) L st (xu x c9 7 v)) : PW M R mc ms Post PT pc L (.int v :: .ref c9 :: st) x := r_put (C9 := RX6) (T := TX6) (N := 9) tyX6 7 hin_6 tyX6_ok nmX6 (by rw [hM]; exact fl_X9_319) rfl (by decide) rfl (by decide +kernel) hd hlay hv k
set_option maxRecDepth 100000 in
theorem fl_X9_329 : Cond.fieldLink RX9 329 (TX6 8).1 (TX6 8).2.1 (TX6 8).2.2.1 ∈ WS := ws_t 214 rfl rfl
theorem gf_X9_329 {M : MD} {R : Room} {mc ms : Nat} {Post : Option Value → XS → Prop} {PT : String → XS → Prop} {pc : Nat} {L : List (Nat × Value)} {st : List Value} {x : XS} {c9 : Nat} {t : List (Option Nat)} {v : Value} (hM : M.1.cls = RX9) (hd : decode M.2.1 pc = .ok (.getfield 329, 3)) (hlay : lay c9 = .inl (6, t)) (hv : fo x c9 8 t = some v) (k : PW M R mc ms Post PT (pc + 3) L (v :: st) x) : PW M R mc ms Post PT pc L (.ref c9 :: st) x := r_get (C9 := RX6) (T := TX6) (N := 9) 8 hin_6 (by rw [hM]; exact fl_X9_329) rfl (by decide) hd hlay hv k
theorem pf_X9_329 {M : MD} {R : Room} {mc ms : Nat} {Post : Option Value → XS → Prop} {PT : String → XS → Prop} {pc : Nat} {L : List (Nat × Value)} {st : List Value} {x : XS} {c9 : Nat} {t : List (Option Nat)} {v : Int32} (hM : M.1.cls = RX9) (hd : decode M.2.1 pc = .ok (.putfield 329, 3)) (hlay : lay c9 = .inl (6, t)) (hv : t[8]? = some none) (k : PW M R mc ms Post PT (pc + 3) L st (xu x c9 8 v)) : PW M R mc ms Post PT pc L (.int v :: .ref c9 :: st) x := r_put (C9 := RX6) (T := TX6) (N := 9) tyX6 8 hin_6 tyX6_ok nmX6 (by rw [hM]; exact fl_X9_329) rfl (by decide) rfl (by decide +kernel) hd hlay hv k
set_option maxRecDepth 100000 in
theorem fl_X9_356 : Cond.fieldLink RX9 356 (TX1 0).1 (TX1 0).2.1 (TX1 0).2.2.1 ∈ WS := ws_t 153 rfl rfl
theorem gf_X9_356 {M : MD} {R : Room} {mc ms : Nat} {Post : Option Value → XS → Prop} {PT : String → XS → Prop} {pc : Nat} {L : List (Nat × Value)} {st : List Value} {x : XS} {c9 : Nat} {t : List (Option Nat)} {v : Value} (hM : M.1.cls = RX9) (hd : decode M.2.1 pc = .ok (.getfield 356, 3)) (hlay : lay c9 = .inl (1, t)) (hv : fo x c9 0 t = some v) (k : PW M R mc ms Post PT (pc + 3) L (v :: st) x) : PW M R mc ms Post PT pc L (.ref c9 :: st) x := r_get (C9 := RX1) (T := TX1) (N := 3) 0 hin_1 (by rw [hM]; exact fl_X9_356) rfl (by decide) hd hlay hv k
set_option maxRecDepth 100000 in
theorem fl_X9_362 : Cond.fieldLink RX9 362 (TX1 1).1 (TX1 1).2.1 (TX1 1).2.2.1 ∈ WS := ws_t 155 rfl rfl
theorem gf_X9_362 {M : MD} {R : Room} {mc ms : Nat} {Post : Option Value → XS → Prop} {PT : String → XS → Prop} {pc : Nat} {L : List (Nat × Value)} {st : List Value} {x : XS} {c9 : Nat} {t : List (Option Nat)} {v : Value} (hM : M.1.cls = RX9) (hd : decode M.2.1 pc = .ok (.getfield 362, 3)) (hlay : lay c9 = .inl (1, t)) (hv : fo x c9 1 t = some v) (k : PW M R mc ms Post PT (pc + 3) L (v :: st) x) : PW M R mc ms Post PT pc L (.ref c9 :: st) x := r_get (C9 := RX1) (T := TX1) (N := 3) 1 hin_1 (by rw [hM]; exact fl_X9_362) rfl (by decide) hd hlay hv k
set_option maxRecDepth 100000 in
theorem fl_X0_13 : Cond.fieldLink RX0 13 (TX0 0).1 (TX0 0).2.1 (TX0 0).2.2.1 ∈ WS := ws_t 260 rfl rfl
theorem gf_X0_13 {M : MD} {R : Room} {mc ms : Nat} {Post : Option Value → XS → Prop} {PT : String → XS → Prop} {pc : Nat} {L : List (Nat × Value)} {st : List Value} {x : XS} {c9 : Nat} {t : List (Option Nat)} {v : Value} (hM : M.1.cls = RX0) (hd : decode M.2.1 pc = .ok (.getfield 13, 3)) (hlay : lay c9 = .inl (0, t)) (hv : fo x c9 0 t = some v) (k : PW M R mc ms Post PT (pc + 3) L (v :: st) x) : PW M R mc ms Post PT pc L (.ref c9 :: st) x := r_get (C9 := RX0) (T := TX0) (N := 3) 0 hin_0 (by rw [hM]; exact fl_X0_13) rfl (by decide) hd hlay hv k
set_option maxRecDepth 100000 in
theorem fl_X0_19 : Cond.fieldLink RX0 19 (TX0 1).1 (TX0 1).2.1 (TX0 1).2.2.1 ∈ WS := ws_t 261 rfl rfl
theorem gf_X0_19 {M : MD} {R : Room} {mc ms : Nat} {Post : Option Value → XS → Prop} {PT : String → XS → Prop} {pc : Nat} {L : List (Nat × Value)} {st : List Value} {x : XS} {c9 : Nat} {t : List (Option Nat)} {v : Value} (hM : M.1.cls = RX0) (hd : decode M.2.1 pc = .ok (.getfield 19, 3)) (hlay : lay c9 = .inl (0, t)) (hv : fo x c9 1 t = some v) (k : PW M R mc ms Post PT (pc + 3) L (v :: st) x) : PW M R mc ms Post PT pc L (.ref c9 :: st) x := r_get (C9 := RX0) (T := TX0) (N := 3) 1 hin_0 (by rw [hM]; exact fl_X0_19) rfl (by decide) hd hlay hv k
set_option maxRecDepth 100000 in
theorem fl_X0_23 : Cond.fieldLink RX0 23 (TX0 2).1 (TX0 2).2.1 (TX0 2).2.2.1 ∈ WS := ws_t 262 rfl rfl
theorem gf_X0_23 {M : MD} {R : Room} {mc ms : Nat} {Post : Option Value → XS → Prop} {PT : String → XS → Prop} {pc : Nat} {L : List (Nat × Value)} {st : List Value} {x : XS} {c9 : Nat} {t : List (Option Nat)} {v : Value} (hM : M.1.cls = RX0) (hd : decode M.2.1 pc = .ok (.getfield 23, 3)) (hlay : lay c9 = .inl (0, t)) (hv : fo x c9 2 t = some v) (k : PW M R mc ms Post PT (pc + 3) L (v :: st) x) : PW M R mc ms Post PT pc L (.ref c9 :: st) x := r_get (C9 := RX0) (T := TX0) (N := 3) 2 hin_0 (by rw [hM]; exact fl_X0_23) rfl (by decide) hd hlay hv k
theorem pf_X0_23 {M : MD} {R : Room} {mc ms : Nat} {Post : Option Value → XS → Prop} {PT : String → XS → Prop} {pc : Nat} {L : List (Nat × Value)} {st : List Value} {x : XS} {c9 : Nat} {t : List (Option Nat)} {v : Int32} (hM : M.1.cls = RX0) (hd : decode M.2.1 pc = .ok (.putfield 23, 3)) (hlay : lay c9 = .inl (0, t)) (hv : t[2]? = some none) (k : PW M R mc ms Post PT (pc + 3) L st (xu x c9 2 v)) : PW M R mc ms Post PT pc L (.int v :: .ref c9 :: st) x := r_put (C9 := RX0) (T := TX0) (N := 3) tyX0 2 hin_0 tyX0_ok nmX0 (by rw [hM]; exact fl_X0_23) rfl (by decide) rfl (by decide +kernel) hd hlay hv k
set_option maxRecDepth 100000 in
theorem fl_X1_11 : Cond.fieldLink RX1 11 (TX1 0).1 (TX1 0).2.1 (TX1 0).2.2.1 ∈ WS := ws_t 152 rfl rfl
theorem gf_X1_11 {M : MD} {R : Room} {mc ms : Nat} {Post : Option Value → XS → Prop} {PT : String → XS → Prop} {pc : Nat} {L : List (Nat × Value)} {st : List Value} {x : XS} {c9 : Nat} {t : List (Option Nat)} {v : Value} (hM : M.1.cls = RX1) (hd : decode M.2.1 pc = .ok (.getfield 11, 3)) (hlay : lay c9 = .inl (1, t)) (hv : fo x c9 0 t = some v) (k : PW M R mc ms Post PT (pc + 3) L (v :: st) x) : PW M R mc ms Post PT pc L (.ref c9 :: st) x := r_get (C9 := RX1) (T := TX1) (N := 3) 0 hin_1 (by rw [hM]; exact fl_X1_11) rfl (by decide) hd hlay hv k
set_option maxRecDepth 100000 in
theorem fl_X1_15 : Cond.fieldLink RX1 15 (TX1 1).1 (TX1 1).2.1 (TX1 1).2.2.1 ∈ WS := ws_t 154 rfl rfl
theorem gf_X1_15 {M : MD} {R : Room} {mc ms : Nat} {Post : Option Value → XS → Prop} {PT : String → XS → Prop} {pc : Nat} {L : List (Nat × Value)} {st : List Value} {x : XS} {c9 : Nat} {t : List (Option Nat)} {v : Value} (hM : M.1.cls = RX1) (hd : decode M.2.1 pc = .ok (.getfield 15, 3)) (hlay : lay c9 = .inl (1, t)) (hv : fo x c9 1 t = some v) (k : PW M R mc ms Post PT (pc + 3) L (v :: st) x) : PW M R mc ms Post PT pc L (.ref c9 :: st) x := r_get (C9 := RX1) (T := TX1) (N := 3) 1 hin_1 (by rw [hM]; exact fl_X1_15) rfl (by decide) hd hlay hv k
set_option maxRecDepth 100000 in
theorem fl_X1_18 : Cond.fieldLink RX1 18 (TX1 2).1 (TX1 2).2.1 (TX1 2).2.2.1 ∈ WS := ws_t 156 rfl rfl
theorem gf_X1_18 {M : MD} {R : Room} {mc ms : Nat} {Post : Option Value → XS → Prop} {PT : String → XS → Prop} {pc : Nat} {L : List (Nat × Value)} {st : List Value} {x : XS} {c9 : Nat} {t : List (Option Nat)} {v : Value} (hM : M.1.cls = RX1) (hd : decode M.2.1 pc = .ok (.getfield 18, 3)) (hlay : lay c9 = .inl (1, t)) (hv : fo x c9 2 t = some v) (k : PW M R mc ms Post PT (pc + 3) L (v :: st) x) : PW M R mc ms Post PT pc L (.ref c9 :: st) x := r_get (C9 := RX1) (T := TX1) (N := 3) 2 hin_1 (by rw [hM]; exact fl_X1_18) rfl (by decide) hd hlay hv k
theorem pf_X1_18 {M : MD} {R : Room} {mc ms : Nat} {Post : Option Value → XS → Prop} {PT : String → XS → Prop} {pc : Nat} {L : List (Nat × Value)} {st : List Value} {x : XS} {c9 : Nat} {t : List (Option Nat)} {v : Int32} (hM : M.1.cls = RX1) (hd : decode M.2.1 pc = .ok (.putfield 18, 3)) (hlay : lay c9 = .inl (1, t)) (hv : t[2]? = some none) (k : PW M R mc ms Post PT (pc + 3) L st (xu x c9 2 v)) : PW M R mc ms Post PT pc L (.int v :: .ref c9 :: st) x := r_put (C9 := RX1) (T := TX1) (N := 3) tyX1 2 hin_1 tyX1_ok nmX1 (by rw [hM]; exact fl_X1_18) rfl (by decide) rfl (by decide +kernel) hd hlay hv k
set_option maxRecDepth 100000 in
theorem fl_X1_36 : Cond.fieldLink RX1 36 (TX8 6).1 (TX8 6).2.1 (TX8 6).2.2.1 ∈ WS := ws_t 49 rfl rfl
theorem gf_X1_36 {M : MD} {R : Room} {mc ms : Nat} {Post : Option Value → XS → Prop} {PT : String → XS → Prop} {pc : Nat} {L : List (Nat × Value)} {st : List Value} {x : XS} {c9 : Nat} {t : List (Option Nat)} {v : Value} (hM : M.1.cls = RX1) (hd : decode M.2.1 pc = .ok (.getfield 36, 3)) (hlay : lay c9 = .inl (8, t)) (hv : fo x c9 6 t = some v) (k : PW M R mc ms Post PT (pc + 3) L (v :: st) x) : PW M R mc ms Post PT pc L (.ref c9 :: st) x := r_get (C9 := RX8) (T := TX8) (N := 7) 6 hin_8 (by rw [hM]; exact fl_X1_36) rfl (by decide) hd hlay hv k
theorem pf_X1_36 {M : MD} {R : Room} {mc ms : Nat} {Post : Option Value → XS → Prop} {PT : String → XS → Prop} {pc : Nat} {L : List (Nat × Value)} {st : List Value} {x : XS} {c9 : Nat} {t : List (Option Nat)} {v : Int32} (hM : M.1.cls = RX1) (hd : decode M.2.1 pc = .ok (.putfield 36, 3)) (hlay : lay c9 = .inl (8, t)) (hv : t[6]? = some none) (k : PW M R mc ms Post PT (pc + 3) L st (xu x c9 6 v)) : PW M R mc ms Post PT pc L (.int v :: .ref c9 :: st) x := r_put (C9 := RX8) (T := TX8) (N := 7) tyX8 6 hin_8 tyX8_ok nmX8 (by rw [hM]; exact fl_X1_36) rfl (by decide) rfl (by decide +kernel) hd hlay hv k
set_option maxRecDepth 100000 in
theorem fl_X2_13 : Cond.fieldLink RX2 13 (TX2 0).1 (TX2 0).2.1 (TX2 0).2.2.1 ∈ WS := ws_t 242 rfl rfl
theorem gf_X2_13 {M : MD} {R : Room} {mc ms : Nat} {Post : Option Value → XS → Prop} {PT : String → XS → Prop} {pc : Nat} {L : List (Nat × Value)} {st : List Value} {x : XS} {c9 : Nat} {t : List (Option Nat)} {v : Value} (hM : M.1.cls = RX2) (hd : decode M.2.1 pc = .ok (.getfield 13, 3)) (hlay : lay c9 = .inl (2, t)) (hv : fo x c9 0 t = some v) (k : PW M R mc ms Post PT (pc + 3) L (v :: st) x) : PW M R mc ms Post PT pc L (.ref c9 :: st) x := r_get (C9 := RX2) (T := TX2) (N := 2) 0 hin_2 (by rw [hM]; exact fl_X2_13) rfl (by decide) hd hlay hv k
set_option maxRecDepth 100000 in
theorem fl_X2_16 : Cond.fieldLink RX2 16 (TX2 1).1 (TX2 1).2.1 (TX2 1).2.2.1 ∈ WS := ws_t 243 rfl rfl
theorem gf_X2_16 {M : MD} {R : Room} {mc ms : Nat} {Post : Option Value → XS → Prop} {PT : String → XS → Prop} {pc : Nat} {L : List (Nat × Value)} {st : List Value} {x : XS} {c9 : Nat} {t : List (Option Nat)} {v : Value} (hM : M.1.cls = RX2) (hd : decode M.2.1 pc = .ok (.getfield 16, 3)) (hlay : lay c9 = .inl (2, t)) (hv : fo x c9 1 t = some v) (k : PW M R mc ms Post PT (pc + 3) L (v :: st) x) : PW M R mc ms Post PT pc L (.ref c9 :: st) x := r_get (C9 := RX2) (T := TX2) (N := 2) 1 hin_2 (by rw [hM]; exact fl_X2_16) rfl (by decide) hd hlay hv k
theorem pf_X2_16 {M : MD} {R : Room} {mc ms : Nat} {Post : Option Value → XS → Prop} {PT : String → XS → Prop} {pc : Nat} {L : List (Nat × Value)} {st : List Value} {x : XS} {c9 : Nat} {t : List (Option Nat)} {v : Int32} (hM : M.1.cls = RX2) (hd : decode M.2.1 pc = .ok (.putfield 16, 3)) (hlay : lay c9 = .inl (2, t)) (hv : t[1]? = some none) (k : PW M R mc ms Post PT (pc + 3) L st (xu x c9 1 v)) : PW M R mc ms Post PT pc L (.int v :: .ref c9 :: st) x := r_put (C9 := RX2) (T := TX2) (N := 2) tyX2 1 hin_2 tyX2_ok nmX2 (by rw [hM]; exact fl_X2_16) rfl (by decide) rfl (by decide +kernel) hd hlay hv k
set_option maxRecDepth 100000 in
theorem fl_X3_9 : Cond.fieldLink RX3 9 (TX3 0).1 (TX3 0).2.1 (TX3 0).2.2.1 ∈ WS := ws_t 74 rfl rfl
theorem gf_X3_9 {M : MD} {R : Room} {mc ms : Nat} {Post : Option Value → XS → Prop} {PT : String → XS → Prop} {pc : Nat} {L : List (Nat × Value)} {st : List Value} {x : XS} {c9 : Nat} {t : List (Option Nat)} {v : Value} (hM : M.1.cls = RX3) (hd : decode M.2.1 pc = .ok (.getfield 9, 3)) (hlay : lay c9 = .inl (3, t)) (hv : fo x c9 0 t = some v) (k : PW M R mc ms Post PT (pc + 3) L (v :: st) x) : PW M R mc ms Post PT pc L (.ref c9 :: st) x := r_get (C9 := RX3) (T := TX3) (N := 13) 0 hin_3 (by rw [hM]; exact fl_X3_9) rfl (by decide) hd hlay hv k
theorem pf_X3_9 {M : MD} {R : Room} {mc ms : Nat} {Post : Option Value → XS → Prop} {PT : String → XS → Prop} {pc : Nat} {L : List (Nat × Value)} {st : List Value} {x : XS} {c9 : Nat} {t : List (Option Nat)} {v : Int32} (hM : M.1.cls = RX3) (hd : decode M.2.1 pc = .ok (.putfield 9, 3)) (hlay : lay c9 = .inl (3, t)) (hv : t[0]? = some none) (k : PW M R mc ms Post PT (pc + 3) L st (xu x c9 0 v)) : PW M R mc ms Post PT pc L (.int v :: .ref c9 :: st) x := r_put (C9 := RX3) (T := TX3) (N := 13) tyX3 0 hin_3 tyX3_ok nmX3 (by rw [hM]; exact fl_X3_9) rfl (by decide) rfl (by decide +kernel) hd hlay hv k
set_option maxRecDepth 100000 in
theorem fl_X3_15 : Cond.fieldLink RX3 15 (TX3 1).1 (TX3 1).2.1 (TX3 1).2.2.1 ∈ WS := ws_t 77 rfl rfl
theorem gf_X3_15 {M : MD} {R : Room} {mc ms : Nat} {Post : Option Value → XS → Prop} {PT : String → XS → Prop} {pc : Nat} {L : List (Nat × Value)} {st : List Value} {x : XS} {c9 : Nat} {t : List (Option Nat)} {v : Value} (hM : M.1.cls = RX3) (hd : decode M.2.1 pc = .ok (.getfield 15, 3)) (hlay : lay c9 = .inl (3, t)) (hv : fo x c9 1 t = some v) (k : PW M R mc ms Post PT (pc + 3) L (v :: st) x) : PW M R mc ms Post PT pc L (.ref c9 :: st) x := r_get (C9 := RX3) (T := TX3) (N := 13) 1 hin_3 (by rw [hM]; exact fl_X3_15) rfl (by decide) hd hlay hv k
set_option maxRecDepth 100000 in
theorem fl_X3_19 : Cond.fieldLink RX3 19 (TX3 2).1 (TX3 2).2.1 (TX3 2).2.2.1 ∈ WS := ws_t 79 rfl rfl
theorem gf_X3_19 {M : MD} {R : Room} {mc ms : Nat} {Post : Option Value → XS → Prop} {PT : String → XS → Prop} {pc : Nat} {L : List (Nat × Value)} {st : List Value} {x : XS} {c9 : Nat} {t : List (Option Nat)} {v : Value} (hM : M.1.cls = RX3) (hd : decode M.2.1 pc = .ok (.getfield 19, 3)) (hlay : lay c9 = .inl (3, t)) (hv : fo x c9 2 t = some v) (k : PW M R mc ms Post PT (pc + 3) L (v :: st) x) : PW M R mc ms Post PT pc L (.ref c9 :: st) x := r_get (C9 := RX3) (T := TX3) (N := 13) 2 hin_3 (by rw [hM]; exact fl_X3_19) rfl (by decide) hd hlay hv k
set_option maxRecDepth 100000 in
theorem fl_X3_22 : Cond.fieldLink RX3 22 (TX3 3).1 (TX3 3).2.1 (TX3 3).2.2.1 ∈ WS := ws_t 82 rfl rfl
theorem gf_X3_22 {M : MD} {R : Room} {mc ms : Nat} {Post : Option Value → XS → Prop} {PT : String → XS → Prop} {pc : Nat} {L : List (Nat × Value)} {st : List Value} {x : XS} {c9 : Nat} {t : List (Option Nat)} {v : Value} (hM : M.1.cls = RX3) (hd : decode M.2.1 pc = .ok (.getfield 22, 3)) (hlay : lay c9 = .inl (3, t)) (hv : fo x c9 3 t = some v) (k : PW M R mc ms Post PT (pc + 3) L (v :: st) x) : PW M R mc ms Post PT pc L (.ref c9 :: st) x := r_get (C9 := RX3) (T := TX3) (N := 13) 3 hin_3 (by rw [hM]; exact fl_X3_22) rfl (by decide) hd hlay hv k
set_option maxRecDepth 100000 in
theorem fl_X3_25 : Cond.fieldLink RX3 25 (TX3 4).1 (TX3 4).2.1 (TX3 4).2.2.1 ∈ WS := ws_t 85 rfl rfl
theorem gf_X3_25 {M : MD} {R : Room} {mc ms : Nat} {Post : Option Value → XS → Prop} {PT : String → XS → Prop} {pc : Nat} {L : List (Nat × Value)} {st : List Value} {x : XS} {c9 : Nat} {t : List (Option Nat)} {v : Value} (hM : M.1.cls = RX3) (hd : decode M.2.1 pc = .ok (.getfield 25, 3)) (hlay : lay c9 = .inl (3, t)) (hv : fo x c9 4 t = some v) (k : PW M R mc ms Post PT (pc + 3) L (v :: st) x) : PW M R mc ms Post PT pc L (.ref c9 :: st) x := r_get (C9 := RX3) (T := TX3) (N := 13) 4 hin_3 (by rw [hM]; exact fl_X3_25) rfl (by decide) hd hlay hv k
set_option maxRecDepth 100000 in
theorem fl_X3_28 : Cond.fieldLink RX3 28 (TX3 5).1 (TX3 5).2.1 (TX3 5).2.2.1 ∈ WS := ws_t 87 rfl rfl
theorem gf_X3_28 {M : MD} {R : Room} {mc ms : Nat} {Post : Option Value → XS → Prop} {PT : String → XS → Prop} {pc : Nat} {L : List (Nat × Value)} {st : List Value} {x : XS} {c9 : Nat} {t : List (Option Nat)} {v : Value} (hM : M.1.cls = RX3) (hd : decode M.2.1 pc = .ok (.getfield 28, 3)) (hlay : lay c9 = .inl (3, t)) (hv : fo x c9 5 t = some v) (k : PW M R mc ms Post PT (pc + 3) L (v :: st) x) : PW M R mc ms Post PT pc L (.ref c9 :: st) x := r_get (C9 := RX3) (T := TX3) (N := 13) 5 hin_3 (by rw [hM]; exact fl_X3_28) rfl (by decide) hd hlay hv k
set_option maxRecDepth 100000 in
theorem fl_X3_31 : Cond.fieldLink RX3 31 (TX3 6).1 (TX3 6).2.1 (TX3 6).2.2.1 ∈ WS := ws_t 89 rfl rfl
theorem gf_X3_31 {M : MD} {R : Room} {mc ms : Nat} {Post : Option Value → XS → Prop} {PT : String → XS → Prop} {pc : Nat} {L : List (Nat × Value)} {st : List Value} {x : XS} {c9 : Nat} {t : List (Option Nat)} {v : Value} (hM : M.1.cls = RX3) (hd : decode M.2.1 pc = .ok (.getfield 31, 3)) (hlay : lay c9 = .inl (3, t)) (hv : fo x c9 6 t = some v) (k : PW M R mc ms Post PT (pc + 3) L (v :: st) x) : PW M R mc ms Post PT pc L (.ref c9 :: st) x := r_get (C9 := RX3) (T := TX3) (N := 13) 6 hin_3 (by rw [hM]; exact fl_X3_31) rfl (by decide) hd hlay hv k
set_option maxRecDepth 100000 in
theorem fl_X3_34 : Cond.fieldLink RX3 34 (TX3 7).1 (TX3 7).2.1 (TX3 7).2.2.1 ∈ WS := ws_t 91 rfl rfl
theorem gf_X3_34 {M : MD} {R : Room} {mc ms : Nat} {Post : Option Value → XS → Prop} {PT : String → XS → Prop} {pc : Nat} {L : List (Nat × Value)} {st : List Value} {x : XS} {c9 : Nat} {t : List (Option Nat)} {v : Value} (hM : M.1.cls = RX3) (hd : decode M.2.1 pc = .ok (.getfield 34, 3)) (hlay : lay c9 = .inl (3, t)) (hv : fo x c9 7 t = some v) (k : PW M R mc ms Post PT (pc + 3) L (v :: st) x) : PW M R mc ms Post PT pc L (.ref c9 :: st) x := r_get (C9 := RX3) (T := TX3) (N := 13) 7 hin_3 (by rw [hM]; exact fl_X3_34) rfl (by decide) hd hlay hv k
set_option maxRecDepth 100000 in
theorem fl_X3_37 : Cond.fieldLink RX3 37 (TX3 8).1 (TX3 8).2.1 (TX3 8).2.2.1 ∈ WS := ws_t 93 rfl rfl
theorem gf_X3_37 {M : MD} {R : Room} {mc ms : Nat} {Post : Option Value → XS → Prop} {PT : String → XS → Prop} {pc : Nat} {L : List (Nat × Value)} {st : List Value} {x : XS} {c9 : Nat} {t : List (Option Nat)} {v : Value} (hM : M.1.cls = RX3) (hd : decode M.2.1 pc = .ok (.getfield 37, 3)) (hlay : lay c9 = .inl (3, t)) (hv : fo x c9 8 t = some v) (k : PW M R mc ms Post PT (pc + 3) L (v :: st) x) : PW M R mc ms Post PT pc L (.ref c9 :: st) x := r_get (C9 := RX3) (T := TX3) (N := 13) 8 hin_3 (by rw [hM]; exact fl_X3_37) rfl (by decide) hd hlay hv k
set_option maxRecDepth 100000 in
theorem fl_X3_40 : Cond.fieldLink RX3 40 (TX3 9).1 (TX3 9).2.1 (TX3 9).2.2.1 ∈ WS := ws_t 95 rfl rfl
theorem gf_X3_40 {M : MD} {R : Room} {mc ms : Nat} {Post : Option Value → XS → Prop} {PT : String → XS → Prop} {pc : Nat} {L : List (Nat × Value)} {st : List Value} {x : XS} {c9 : Nat} {t : List (Option Nat)} {v : Value} (hM : M.1.cls = RX3) (hd : decode M.2.1 pc = .ok (.getfield 40, 3)) (hlay : lay c9 = .inl (3, t)) (hv : fo x c9 9 t = some v) (k : PW M R mc ms Post PT (pc + 3) L (v :: st) x) : PW M R mc ms Post PT pc L (.ref c9 :: st) x := r_get (C9 := RX3) (T := TX3) (N := 13) 9 hin_3 (by rw [hM]; exact fl_X3_40) rfl (by decide) hd hlay hv k
set_option maxRecDepth 100000 in
theorem fl_X3_43 : Cond.fieldLink RX3 43 (TX3 10).1 (TX3 10).2.1 (TX3 10).2.2.1 ∈ WS := ws_t 96 rfl rfl
theorem gf_X3_43 {M : MD} {R : Room} {mc ms : Nat} {Post : Option Value → XS → Prop} {PT : String → XS → Prop} {pc : Nat} {L : List (Nat × Value)} {st : List Value} {x : XS} {c9 : Nat} {t : List (Option Nat)} {v : Value} (hM : M.1.cls = RX3) (hd : decode M.2.1 pc = .ok (.getfield 43, 3)) (hlay : lay c9 = .inl (3, t)) (hv : fo x c9 10 t = some v) (k : PW M R mc ms Post PT (pc + 3) L (v :: st) x) : PW M R mc ms Post PT pc L (.ref c9 :: st) x := r_get (C9 := RX3) (T := TX3) (N := 13) 10 hin_3 (by rw [hM]; exact fl_X3_43) rfl (by decide) hd hlay hv k
theorem pf_X3_43 {M : MD} {R : Room} {mc ms : Nat} {Post : Option Value → XS → Prop} {PT : String → XS → Prop} {pc : Nat} {L : List (Nat × Value)} {st : List Value} {x : XS} {c9 : Nat} {t : List (Option Nat)} {v : Int32} (hM : M.1.cls = RX3) (hd : decode M.2.1 pc = .ok (.putfield 43, 3)) (hlay : lay c9 = .inl (3, t)) (hv : t[10]? = some none) (k : PW M R mc ms Post PT (pc + 3) L st (xu x c9 10 v)) : PW M R mc ms Post PT pc L (.int v :: .ref c9 :: st) x := r_put (C9 := RX3) (T := TX3) (N := 13) tyX3 10 hin_3 tyX3_ok nmX3 (by rw [hM]; exact fl_X3_43) rfl (by decide) rfl (by decide +kernel) hd hlay hv k
set_option maxRecDepth 100000 in
theorem fl_X3_46 : Cond.fieldLink RX3 46 (TX3 11).1 (TX3 11).2.1 (TX3 11).2.2.1 ∈ WS := ws_t 97 rfl rfl
theorem gf_X3_46 {M : MD} {R : Room} {mc ms : Nat} {Post : Option Value → XS → Prop} {PT : String → XS → Prop} {pc : Nat} {L : List (Nat × Value)} {st : List Value} {x : XS} {c9 : Nat} {t : List (Option Nat)} {v : Value} (hM : M.1.cls = RX3) (hd : decode M.2.1 pc = .ok (.getfield 46, 3)) (hlay : lay c9 = .inl (3, t)) (hv : fo x c9 11 t = some v) (k : PW M R mc ms Post PT (pc + 3) L (v :: st) x) : PW M R mc ms Post PT pc L (.ref c9 :: st) x := r_get (C9 := RX3) (T := TX3) (N := 13) 11 hin_3 (by rw [hM]; exact fl_X3_46) rfl (by decide) hd hlay hv k
theorem pf_X3_46 {M : MD} {R : Room} {mc ms : Nat} {Post : Option Value → XS → Prop} {PT : String → XS → Prop} {pc : Nat} {L : List (Nat × Value)} {st : List Value} {x : XS} {c9 : Nat} {t : List (Option Nat)} {v : Int32} (hM : M.1.cls = RX3) (hd : decode M.2.1 pc = .ok (.putfield 46, 3)) (hlay : lay c9 = .inl (3, t)) (hv : t[11]? = some none) (k : PW M R mc ms Post PT (pc + 3) L st (xu x c9 11 v)) : PW M R mc ms Post PT pc L (.int v :: .ref c9 :: st) x := r_put (C9 := RX3) (T := TX3) (N := 13) tyX3 11 hin_3 tyX3_ok nmX3 (by rw [hM]; exact fl_X3_46) rfl (by decide) rfl (by decide +kernel) hd hlay hv k
set_option maxRecDepth 100000 in
theorem fl_X3_49 : Cond.fieldLink RX3 49 (TX3 12).1 (TX3 12).2.1 (TX3 12).2.2.1 ∈ WS := ws_t 100 rfl rfl
theorem gf_X3_49 {M : MD} {R : Room} {mc ms : Nat} {Post : Option Value → XS → Prop} {PT : String → XS → Prop} {pc : Nat} {L : List (Nat × Value)} {st : List Value} {x : XS} {c9 : Nat} {t : List (Option Nat)} {v : Value} (hM : M.1.cls = RX3) (hd : decode M.2.1 pc = .ok (.getfield 49, 3)) (hlay : lay c9 = .inl (3, t)) (hv : fo x c9 12 t = some v) (k : PW M R mc ms Post PT (pc + 3) L (v :: st) x) : PW M R mc ms Post PT pc L (.ref c9 :: st) x := r_get (C9 := RX3) (T := TX3) (N := 13) 12 hin_3 (by rw [hM]; exact fl_X3_49) rfl (by decide) hd hlay hv k
theorem pf_X3_49 {M : MD} {R : Room} {mc ms : Nat} {Post : Option Value → XS → Prop} {PT : String → XS → Prop} {pc : Nat} {L : List (Nat × Value)} {st : List Value} {x : XS} {c9 : Nat} {t : List (Option Nat)} {v : Int32} (hM : M.1.cls = RX3) (hd : decode M.2.1 pc = .ok (.putfield 49, 3)) (hlay : lay c9 = .inl (3, t)) (hv : t[12]? = some none) (k : PW M R mc ms Post PT (pc + 3) L st (xu x c9 12 v)) : PW M R mc ms Post PT pc L (.int v :: .ref c9 :: st) x := r_put (C9 := RX3) (T := TX3) (N := 13) tyX3 12 hin_3 tyX3_ok nmX3 (by rw [hM]; exact fl_X3_49) rfl (by decide) rfl (by decide +kernel) hd hlay hv k
set_option maxRecDepth 100000 in
theorem fl_X3_67 : Cond.fieldLink RX3 67 (TX8 6).1 (TX8 6).2.1 (TX8 6).2.2.1 ∈ WS := ws_t 48 rfl rfl
theorem gf_X3_67 {M : MD} {R : Room} {mc ms : Nat} {Post : Option Value → XS → Prop} {PT : String → XS → Prop} {pc : Nat} {L : List (Nat × Value)} {st : List Value} {x : XS} {c9 : Nat} {t : List (Option Nat)} {v : Value} (hM : M.1.cls = RX3) (hd : decode M.2.1 pc = .ok (.getfield 67, 3)) (hlay : lay c9 = .inl (8, t)) (hv : fo x c9 6 t = some v) (k : PW M R mc ms Post PT (pc + 3) L (v :: st) x) : PW M R mc ms Post PT pc L (.ref c9 :: st) x := r_get (C9 := RX8) (T := TX8) (N := 7) 6 hin_8 (by rw [hM]; exact fl_X3_67) rfl (by decide) hd hlay hv k
theorem pf_X3_67 {M : MD} {R : Room} {mc ms : Nat} {Post : Option Value → XS → Prop} {PT : String → XS → Prop} {pc : Nat} {L : List (Nat × Value)} {st : List Value} {x : XS} {c9 : Nat} {t : List (Option Nat)} {v : Int32} (hM : M.1.cls = RX3) (hd : decode M.2.1 pc = .ok (.putfield 67, 3)) (hlay : lay c9 = .inl (8, t)) (hv : t[6]? = some none) (k : PW M R mc ms Post PT (pc + 3) L st (xu x c9 6 v)) : PW M R mc ms Post PT pc L (.int v :: .ref c9 :: st) x := r_put (C9 := RX8) (T := TX8) (N := 7) tyX8 6 hin_8 tyX8_ok nmX8 (by rw [hM]; exact fl_X3_67) rfl (by decide) rfl (by decide +kernel) hd hlay hv k
set_option maxRecDepth 100000 in
theorem fl_X4_11 : Cond.fieldLink RX4 11 (TX4 0).1 (TX4 0).2.1 (TX4 0).2.2.1 ∈ WS := ws_t 277 rfl rfl
theorem gf_X4_11 {M : MD} {R : Room} {mc ms : Nat} {Post : Option Value → XS → Prop} {PT : String → XS → Prop} {pc : Nat} {L : List (Nat × Value)} {st : List Value} {x : XS} {c9 : Nat} {t : List (Option Nat)} {v : Value} (hM : M.1.cls = RX4) (hd : decode M.2.1 pc = .ok (.getfield 11, 3)) (hlay : lay c9 = .inl (4, t)) (hv : fo x c9 0 t = some v) (k : PW M R mc ms Post PT (pc + 3) L (v :: st) x) : PW M R mc ms Post PT pc L (.ref c9 :: st) x := r_get (C9 := RX4) (T := TX4) (N := 5) 0 hin_4 (by rw [hM]; exact fl_X4_11) rfl (by decide) hd hlay hv k
set_option maxRecDepth 100000 in
theorem fl_X4_15 : Cond.fieldLink RX4 15 (TX4 1).1 (TX4 1).2.1 (TX4 1).2.2.1 ∈ WS := ws_t 278 rfl rfl
theorem gf_X4_15 {M : MD} {R : Room} {mc ms : Nat} {Post : Option Value → XS → Prop} {PT : String → XS → Prop} {pc : Nat} {L : List (Nat × Value)} {st : List Value} {x : XS} {c9 : Nat} {t : List (Option Nat)} {v : Value} (hM : M.1.cls = RX4) (hd : decode M.2.1 pc = .ok (.getfield 15, 3)) (hlay : lay c9 = .inl (4, t)) (hv : fo x c9 1 t = some v) (k : PW M R mc ms Post PT (pc + 3) L (v :: st) x) : PW M R mc ms Post PT pc L (.ref c9 :: st) x := r_get (C9 := RX4) (T := TX4) (N := 5) 1 hin_4 (by rw [hM]; exact fl_X4_15) rfl (by decide) hd hlay hv k
set_option maxRecDepth 100000 in
theorem fl_X4_18 : Cond.fieldLink RX4 18 (TX4 2).1 (TX4 2).2.1 (TX4 2).2.2.1 ∈ WS := ws_t 279 rfl rfl
theorem gf_X4_18 {M : MD} {R : Room} {mc ms : Nat} {Post : Option Value → XS → Prop} {PT : String → XS → Prop} {pc : Nat} {L : List (Nat × Value)} {st : List Value} {x : XS} {c9 : Nat} {t : List (Option Nat)} {v : Value} (hM : M.1.cls = RX4) (hd : decode M.2.1 pc = .ok (.getfield 18, 3)) (hlay : lay c9 = .inl (4, t)) (hv : fo x c9 2 t = some v) (k : PW M R mc ms Post PT (pc + 3) L (v :: st) x) : PW M R mc ms Post PT pc L (.ref c9 :: st) x := r_get (C9 := RX4) (T := TX4) (N := 5) 2 hin_4 (by rw [hM]; exact fl_X4_18) rfl (by decide) hd hlay hv k
theorem pf_X4_18 {M : MD} {R : Room} {mc ms : Nat} {Post : Option Value → XS → Prop} {PT : String → XS → Prop} {pc : Nat} {L : List (Nat × Value)} {st : List Value} {x : XS} {c9 : Nat} {t : List (Option Nat)} {v : Int32} (hM : M.1.cls = RX4) (hd : decode M.2.1 pc = .ok (.putfield 18, 3)) (hlay : lay c9 = .inl (4, t)) (hv : t[2]? = some none) (k : PW M R mc ms Post PT (pc + 3) L st (xu x c9 2 v)) : PW M R mc ms Post PT pc L (.int v :: .ref c9 :: st) x := r_put (C9 := RX4) (T := TX4) (N := 5) tyX4 2 hin_4 tyX4_ok nmX4 (by rw [hM]; exact fl_X4_18) rfl (by decide) rfl (by decide +kernel) hd hlay hv k
set_option maxRecDepth 100000 in
theorem fl_X4_22 : Cond.fieldLink RX4 22 (TX4 3).1 (TX4 3).2.1 (TX4 3).2.2.1 ∈ WS := ws_t 281 rfl rfl
theorem gf_X4_22 {M : MD} {R : Room} {mc ms : Nat} {Post : Option Value → XS → Prop} {PT : String → XS → Prop} {pc : Nat} {L : List (Nat × Value)} {st : List Value} {x : XS} {c9 : Nat} {t : List (Option Nat)} {v : Value} (hM : M.1.cls = RX4) (hd : decode M.2.1 pc = .ok (.getfield 22, 3)) (hlay : lay c9 = .inl (4, t)) (hv : fo x c9 3 t = some v) (k : PW M R mc ms Post PT (pc + 3) L (v :: st) x) : PW M R mc ms Post PT pc L (.ref c9 :: st) x := r_get (C9 := RX4) (T := TX4) (N := 5) 3 hin_4 (by rw [hM]; exact fl_X4_22) rfl (by decide) hd hlay hv k
theorem pf_X4_22 {M : MD} {R : Room} {mc ms : Nat} {Post : Option Value → XS → Prop} {PT : String → XS → Prop} {pc : Nat} {L : List (Nat × Value)} {st : List Value} {x : XS} {c9 : Nat} {t : List (Option Nat)} {v : Int32} (hM : M.1.cls = RX4) (hd : decode M.2.1 pc = .ok (.putfield 22, 3)) (hlay : lay c9 = .inl (4, t)) (hv : t[3]? = some none) (k : PW M R mc ms Post PT (pc + 3) L st (xu x c9 3 v)) : PW M R mc ms Post PT pc L (.int v :: .ref c9 :: st) x := r_put (C9 := RX4) (T := TX4) (N := 5) tyX4 3 hin_4 tyX4_ok nmX4 (by rw [hM]; exact fl_X4_22) rfl (by decide) rfl (by decide +kernel) hd hlay hv k
set_option maxRecDepth 100000 in
theorem fl_X4_25 : Cond.fieldLink RX4 25 (TX4 4).1 (TX4 4).2.1 (TX4 4).2.2.1 ∈ WS := ws_t 283 rfl rfl
theorem gf_X4_25 {M : MD} {R : Room} {mc ms : Nat} {Post : Option Value → XS → Prop} {PT : String → XS → Prop} {pc : Nat} {L : List (Nat × Value)} {st : List Value} {x : XS} {c9 : Nat} {t : List (Option Nat)} {v : Value} (hM : M.1.cls = RX4) (hd : decode M.2.1 pc = .ok (.getfield 25, 3)) (hlay : lay c9 = .inl (4, t)) (hv : fo x c9 4 t = some v) (k : PW M R mc ms Post PT (pc + 3) L (v :: st) x) : PW M R mc ms Post PT pc L (.ref c9 :: st) x := r_get (C9 := RX4) (T := TX4) (N := 5) 4 hin_4 (by rw [hM]; exact fl_X4_25) rfl (by decide) hd hlay hv k
theorem pf_X4_25 {M : MD} {R : Room} {mc ms : Nat} {Post : Option Value → XS → Prop} {PT : String → XS → Prop} {pc : Nat} {L : List (Nat × Value)} {st : List Value} {x : XS} {c9 : Nat} {t : List (Option Nat)} {v : Int32} (hM : M.1.cls = RX4) (hd : decode M.2.1 pc = .ok (.putfield 25, 3)) (hlay : lay c9 = .inl (4, t)) (hv : t[4]? = some none) (k : PW M R mc ms Post PT (pc + 3) L st (xu x c9 4 v)) : PW M R mc ms Post PT pc L (.int v :: .ref c9 :: st) x := r_put (C9 := RX4) (T := TX4) (N := 5) tyX4 4 hin_4 tyX4_ok nmX4 (by rw [hM]; exact fl_X4_25) rfl (by decide) rfl (by decide +kernel) hd hlay hv k
set_option maxRecDepth 100000 in
theorem fl_X5_9 : Cond.fieldLink RX5 9 (TX5 0).1 (TX5 0).2.1 (TX5 0).2.2.1 ∈ WS := ws_t 136 rfl rfl
theorem gf_X5_9 {M : MD} {R : Room} {mc ms : Nat} {Post : Option Value → XS → Prop} {PT : String → XS → Prop} {pc : Nat} {L : List (Nat × Value)} {st : List Value} {x : XS} {c9 : Nat} {t : List (Option Nat)} {v : Value} (hM : M.1.cls = RX5) (hd : decode M.2.1 pc = .ok (.getfield 9, 3)) (hlay : lay c9 = .inl (5, t)) (hv : fo x c9 0 t = some v) (k : PW M R mc ms Post PT (pc + 3) L (v :: st) x) : PW M R mc ms Post PT pc L (.ref c9 :: st) x := r_get (C9 := RX5) (T := TX5) (N := 3) 0 hin_5 (by rw [hM]; exact fl_X5_9) rfl (by decide) hd hlay hv k
set_option maxRecDepth 100000 in
theorem fl_X5_15 : Cond.fieldLink RX5 15 (TX5 1).1 (TX5 1).2.1 (TX5 1).2.2.1 ∈ WS := ws_t 137 rfl rfl
theorem gf_X5_15 {M : MD} {R : Room} {mc ms : Nat} {Post : Option Value → XS → Prop} {PT : String → XS → Prop} {pc : Nat} {L : List (Nat × Value)} {st : List Value} {x : XS} {c9 : Nat} {t : List (Option Nat)} {v : Value} (hM : M.1.cls = RX5) (hd : decode M.2.1 pc = .ok (.getfield 15, 3)) (hlay : lay c9 = .inl (5, t)) (hv : fo x c9 1 t = some v) (k : PW M R mc ms Post PT (pc + 3) L (v :: st) x) : PW M R mc ms Post PT pc L (.ref c9 :: st) x := r_get (C9 := RX5) (T := TX5) (N := 3) 1 hin_5 (by rw [hM]; exact fl_X5_15) rfl (by decide) hd hlay hv k
theorem pf_X5_15 {M : MD} {R : Room} {mc ms : Nat} {Post : Option Value → XS → Prop} {PT : String → XS → Prop} {pc : Nat} {L : List (Nat × Value)} {st : List Value} {x : XS} {c9 : Nat} {t : List (Option Nat)} {v : Int32} (hM : M.1.cls = RX5) (hd : decode M.2.1 pc = .ok (.putfield 15, 3)) (hlay : lay c9 = .inl (5, t)) (hv : t[1]? = some none) (k : PW M R mc ms Post PT (pc + 3) L st (xu x c9 1 v)) : PW M R mc ms Post PT pc L (.int v :: .ref c9 :: st) x := r_put (C9 := RX5) (T := TX5) (N := 3) tyX5 1 hin_5 tyX5_ok nmX5 (by rw [hM]; exact fl_X5_15) rfl (by decide) rfl (by decide +kernel) hd hlay hv k
set_option maxRecDepth 100000 in
theorem fl_X5_19 : Cond.fieldLink RX5 19 (TX5 2).1 (TX5 2).2.1 (TX5 2).2.2.1 ∈ WS := ws_t 138 rfl rfl
theorem gf_X5_19 {M : MD} {R : Room} {mc ms : Nat} {Post : Option Value → XS → Prop} {PT : String → XS → Prop} {pc : Nat} {L : List (Nat × Value)} {st : List Value} {x : XS} {c9 : Nat} {t : List (Option Nat)} {v : Value} (hM : M.1.cls = RX5) (hd : decode M.2.1 pc = .ok (.getfield 19, 3)) (hlay : lay c9 = .inl (5, t)) (hv : fo x c9 2 t = some v) (k : PW M R mc ms Post PT (pc + 3) L (v :: st) x) : PW M R mc ms Post PT pc L (.ref c9 :: st) x := r_get (C9 := RX5) (T := TX5) (N := 3) 2 hin_5 (by rw [hM]; exact fl_X5_19) rfl (by decide) hd hlay hv k
set_option maxRecDepth 100000 in
theorem fl_X5_85 : Cond.fieldLink RX5 85 (TX8 6).1 (TX8 6).2.1 (TX8 6).2.2.1 ∈ WS := ws_t 51 rfl rfl
theorem gf_X5_85 {M : MD} {R : Room} {mc ms : Nat} {Post : Option Value → XS → Prop} {PT : String → XS → Prop} {pc : Nat} {L : List (Nat × Value)} {st : List Value} {x : XS} {c9 : Nat} {t : List (Option Nat)} {v : Value} (hM : M.1.cls = RX5) (hd : decode M.2.1 pc = .ok (.getfield 85, 3)) (hlay : lay c9 = .inl (8, t)) (hv : fo x c9 6 t = some v) (k : PW M R mc ms Post PT (pc + 3) L (v :: st) x) : PW M R mc ms Post PT pc L (.ref c9 :: st) x := r_get (C9 := RX8) (T := TX8) (N := 7) 6 hin_8 (by rw [hM]; exact fl_X5_85) rfl (by decide) hd hlay hv k
theorem pf_X5_85 {M : MD} {R : Room} {mc ms : Nat} {Post : Option Value → XS → Prop} {PT : String → XS → Prop} {pc : Nat} {L : List (Nat × Value)} {st : List Value} {x : XS} {c9 : Nat} {t : List (Option Nat)} {v : Int32} (hM : M.1.cls = RX5) (hd : decode M.2.1 pc = .ok (.putfield 85, 3)) (hlay : lay c9 = .inl (8, t)) (hv : t[6]? = some none) (k : PW M R mc ms Post PT (pc + 3) L st (xu x c9 6 v)) : PW M R mc ms Post PT pc L (.int v :: .ref c9 :: st) x := r_put (C9 := RX8) (T := TX8) (N := 7) tyX8 6 hin_8 tyX8_ok nmX8 (by rw [hM]; exact fl_X5_85) rfl (by decide) rfl (by decide +kernel) hd hlay hv k
set_option maxRecDepth 100000 in
theorem fl_X6_11 : Cond.fieldLink RX6 11 (TX6 2).1 (TX6 2).2.1 (TX6 2).2.2.1 ∈ WS := ws_t 204 rfl rfl
theorem gf_X6_11 {M : MD} {R : Room} {mc ms : Nat} {Post : Option Value → XS → Prop} {PT : String → XS → Prop} {pc : Nat} {L : List (Nat × Value)} {st : List Value} {x : XS} {c9 : Nat} {t : List (Option Nat)} {v : Value} (hM : M.1.cls = RX6) (hd : decode M.2.1 pc = .ok (.getfield 11, 3)) (hlay : lay c9 = .inl (6, t)) (hv : fo x c9 2 t = some v) (k : PW M R mc ms Post PT (pc + 3) L (v :: st) x) : PW M R mc ms Post PT pc L (.ref c9 :: st) x := r_get (C9 := RX6) (T := TX6) (N := 9) 2 hin_6 (by rw [hM]; exact fl_X6_11) rfl (by decide) hd hlay hv k
set_option maxRecDepth 100000 in
theorem fl_X6_15 : Cond.fieldLink RX6 15 (TX6 3).1 (TX6 3).2.1 (TX6 3).2.2.1 ∈ WS := ws_t 206 rfl rfl
theorem gf_X6_15 {M : MD} {R : Room} {mc ms : Nat} {Post : Option Value → XS → Prop} {PT : String → XS → Prop} {pc : Nat} {L : List (Nat × Value)} {st : List Value} {x : XS} {c9 : Nat} {t : List (Option Nat)} {v : Value} (hM : M.1.cls = RX6) (hd : decode M.2.1 pc = .ok (.getfield 15, 3)) (hlay : lay c9 = .inl (6, t)) (hv : fo x c9 3 t = some v) (k : PW M R mc ms Post PT (pc + 3) L (v :: st) x) : PW M R mc ms Post PT pc L (.ref c9 :: st) x := r_get (C9 := RX6) (T := TX6) (N := 9) 3 hin_6 (by rw [hM]; exact fl_X6_15) rfl (by decide) hd hlay hv k
set_option maxRecDepth 100000 in
theorem fl_X6_18 : Cond.fieldLink RX6 18 (TX6 4).1 (TX6 4).2.1 (TX6 4).2.2.1 ∈ WS := ws_t 207 rfl rfl
theorem gf_X6_18 {M : MD} {R : Room} {mc ms : Nat} {Post : Option Value → XS → Prop} {PT : String → XS → Prop} {pc : Nat} {L : List (Nat × Value)} {st : List Value} {x : XS} {c9 : Nat} {t : List (Option Nat)} {v : Value} (hM : M.1.cls = RX6) (hd : decode M.2.1 pc = .ok (.getfield 18, 3)) (hlay : lay c9 = .inl (6, t)) (hv : fo x c9 4 t = some v) (k : PW M R mc ms Post PT (pc + 3) L (v :: st) x) : PW M R mc ms Post PT pc L (.ref c9 :: st) x := r_get (C9 := RX6) (T := TX6) (N := 9) 4 hin_6 (by rw [hM]; exact fl_X6_18) rfl (by decide) hd hlay hv k
set_option maxRecDepth 100000 in
theorem fl_X6_21 : Cond.fieldLink RX6 21 (TX6 5).1 (TX6 5).2.1 (TX6 5).2.2.1 ∈ WS := ws_t 208 rfl rfl
theorem gf_X6_21 {M : MD} {R : Room} {mc ms : Nat} {Post : Option Value → XS → Prop} {PT : String → XS → Prop} {pc : Nat} {L : List (Nat × Value)} {st : List Value} {x : XS} {c9 : Nat} {t : List (Option Nat)} {v : Value} (hM : M.1.cls = RX6) (hd : decode M.2.1 pc = .ok (.getfield 21, 3)) (hlay : lay c9 = .inl (6, t)) (hv : fo x c9 5 t = some v) (k : PW M R mc ms Post PT (pc + 3) L (v :: st) x) : PW M R mc ms Post PT pc L (.ref c9 :: st) x := r_get (C9 := RX6) (T := TX6) (N := 9) 5 hin_6 (by rw [hM]; exact fl_X6_21) rfl (by decide) hd hlay hv k
set_option maxRecDepth 100000 in
theorem fl_X6_26 : Cond.fieldLink RX6 26 (TX6 6).1 (TX6 6).2.1 (TX6 6).2.2.1 ∈ WS := ws_t 210 rfl rfl
theorem gf_X6_26 {M : MD} {R : Room} {mc ms : Nat} {Post : Option Value → XS → Prop} {PT : String → XS → Prop} {pc : Nat} {L : List (Nat × Value)} {st : List Value} {x : XS} {c9 : Nat} {t : List (Option Nat)} {v : Value} (hM : M.1.cls = RX6) (hd : decode M.2.1 pc = .ok (.getfield 26, 3)) (hlay : lay c9 = .inl (6, t)) (hv : fo x c9 6 t = some v) (k : PW M R mc ms Post PT (pc + 3) L (v :: st) x) : PW M R mc ms Post PT pc L (.ref c9 :: st) x := r_get (C9 := RX6) (T := TX6) (N := 9) 6 hin_6 (by rw [hM]; exact fl_X6_26) rfl (by decide) hd hlay hv k
set_option maxRecDepth 100000 in
theorem fl_X6_29 : Cond.fieldLink RX6 29 (TX6 7).1 (TX6 7).2.1 (TX6 7).2.2.1 ∈ WS := ws_t 211 rfl rfl
theorem gf_X6_29 {M : MD} {R : Room} {mc ms : Nat} {Post : Option Value → XS → Prop} {PT : String → XS → Prop} {pc : Nat} {L : List (Nat × Value)} {st : List Value} {x : XS} {c9 : Nat} {t : List (Option Nat)} {v : Value} (hM : M.1.cls = RX6) (hd : decode M.2.1 pc = .ok (.getfield 29, 3)) (hlay : lay c9 = .inl (6, t)) (hv : fo x c9 7 t = some v) (k : PW M R mc ms Post PT (pc + 3) L (v :: st) x) : PW M R mc ms Post PT pc L (.ref c9 :: st) x := r_get (C9 := RX6) (T := TX6) (N := 9) 7 hin_6 (by rw [hM]; exact fl_X6_29) rfl (by decide) hd hlay hv k
theorem pf_X6_29 {M : MD} {R : Room} {mc ms : Nat} {Post : Option Value → XS → Prop} {PT : String → XS → Prop} {pc : Nat} {L : List (Nat × Value)} {st : List Value} {x : XS} {c9 : Nat} {t : List (Option Nat)} {v : Int32} (hM : M.1.cls = RX6) (hd : decode M.2.1 pc = .ok (.putfield 29, 3)) (hlay : lay c9 = .inl (6, t)) (hv : t[7]? = some none) (k : PW M R mc ms Post PT (pc + 3) L st (xu x c9 7 v)) : PW M R mc ms Post PT pc L (.int v :: .ref c9 :: st) x := r_put (C9 := RX6) (T := TX6) (N := 9) tyX6 7 hin_6 tyX6_ok nmX6 (by rw [hM]; exact fl_X6_29) rfl (by decide) rfl (by decide +kernel) hd hlay hv k
set_option maxRecDepth 100000 in
theorem fl_X6_33 : Cond.fieldLink RX6 33 (TX6 8).1 (TX6 8).2.1 (TX6 8).2.2.1 ∈ WS := ws_t 213 rfl rfl
theorem gf_X6_33 {M : MD} {R : Room} {mc ms : Nat} {Post : Option Value → XS → Prop} {PT : String → XS → Prop} {pc : Nat} {L : List (Nat × Value)} {st : List Value} {x : XS} {c9 : Nat} {t : List (Option Nat)} {v : Value} (hM : M.1.cls = RX6) (hd : decode M.2.1 pc = .ok (.getfield 33, 3)) (hlay : lay c9 = .inl (6, t)) (hv : fo x c9 8 t = some v) (k : PW M R mc ms Post PT (pc + 3) L (v :: st) x) : PW M R mc ms Post PT pc L (.ref c9 :: st) x := r_get (C9 := RX6) (T := TX6) (N := 9) 8 hin_6 (by rw [hM]; exact fl_X6_33) rfl (by decide) hd hlay hv k
theorem pf_X6_33 {M : MD} {R : Room} {mc ms : Nat} {Post : Option Value → XS → Prop} {PT : String → XS → Prop} {pc : Nat} {L : List (Nat × Value)} {st : List Value} {x : XS} {c9 : Nat} {t : List (Option Nat)} {v : Int32} (hM : M.1.cls = RX6) (hd : decode M.2.1 pc = .ok (.putfield 33, 3)) (hlay : lay c9 = .inl (6, t)) (hv : t[8]? = some none) (k : PW M R mc ms Post PT (pc + 3) L st (xu x c9 8 v)) : PW M R mc ms Post PT pc L (.int v :: .ref c9 :: st) x := r_put (C9 := RX6) (T := TX6) (N := 9) tyX6 8 hin_6 tyX6_ok nmX6 (by rw [hM]; exact fl_X6_33) rfl (by decide) rfl (by decide +kernel) hd hlay hv k
set_option maxRecDepth 100000 in
theorem fl_X6_36 : Cond.fieldLink RX6 36 (TX6 0).1 (TX6 0).2.1 (TX6 0).2.2.1 ∈ WS := ws_t 202 rfl rfl
theorem gf_X6_36 {M : MD} {R : Room} {mc ms : Nat} {Post : Option Value → XS → Prop} {PT : String → XS → Prop} {pc : Nat} {L : List (Nat × Value)} {st : List Value} {x : XS} {c9 : Nat} {t : List (Option Nat)} {v : Value} (hM : M.1.cls = RX6) (hd : decode M.2.1 pc = .ok (.getfield 36, 3)) (hlay : lay c9 = .inl (6, t)) (hv : fo x c9 0 t = some v) (k : PW M R mc ms Post PT (pc + 3) L (v :: st) x) : PW M R mc ms Post PT pc L (.ref c9 :: st) x := r_get (C9 := RX6) (T := TX6) (N := 9) 0 hin_6 (by rw [hM]; exact fl_X6_36) rfl (by decide) hd hlay hv k
set_option maxRecDepth 100000 in
theorem fl_X6_40 : Cond.fieldLink RX6 40 (TX6 1).1 (TX6 1).2.1 (TX6 1).2.2.1 ∈ WS := ws_t 203 rfl rfl
theorem gf_X6_40 {M : MD} {R : Room} {mc ms : Nat} {Post : Option Value → XS → Prop} {PT : String → XS → Prop} {pc : Nat} {L : List (Nat × Value)} {st : List Value} {x : XS} {c9 : Nat} {t : List (Option Nat)} {v : Value} (hM : M.1.cls = RX6) (hd : decode M.2.1 pc = .ok (.getfield 40, 3)) (hlay : lay c9 = .inl (6, t)) (hv : fo x c9 1 t = some v) (k : PW M R mc ms Post PT (pc + 3) L (v :: st) x) : PW M R mc ms Post PT pc L (.ref c9 :: st) x := r_get (C9 := RX6) (T := TX6) (N := 9) 1 hin_6 (by rw [hM]; exact fl_X6_40) rfl (by decide) hd hlay hv k
set_option maxRecDepth 100000 in
theorem fl_X6_44 : Cond.fieldLink RX6 44 (TX3 0).1 (TX3 0).2.1 (TX3 0).2.2.1 ∈ WS := ws_t 75 rfl rfl
theorem gf_X6_44 {M : MD} {R : Room} {mc ms : Nat} {Post : Option Value → XS → Prop} {PT : String → XS → Prop} {pc : Nat} {L : List (Nat × Value)} {st : List Value} {x : XS} {c9 : Nat} {t : List (Option Nat)} {v : Value} (hM : M.1.cls = RX6) (hd : decode M.2.1 pc = .ok (.getfield 44, 3)) (hlay : lay c9 = .inl (3, t)) (hv : fo x c9 0 t = some v) (k : PW M R mc ms Post PT (pc + 3) L (v :: st) x) : PW M R mc ms Post PT pc L (.ref c9 :: st) x := r_get (C9 := RX3) (T := TX3) (N := 13) 0 hin_3 (by rw [hM]; exact fl_X6_44) rfl (by decide) hd hlay hv k
theorem pf_X6_44 {M : MD} {R : Room} {mc ms : Nat} {Post : Option Value → XS → Prop} {PT : String → XS → Prop} {pc : Nat} {L : List (Nat × Value)} {st : List Value} {x : XS} {c9 : Nat} {t : List (Option Nat)} {v : Int32} (hM : M.1.cls = RX6) (hd : decode M.2.1 pc = .ok (.putfield 44, 3)) (hlay : lay c9 = .inl (3, t)) (hv : t[0]? = some none) (k : PW M R mc ms Post PT (pc + 3) L st (xu x c9 0 v)) : PW M R mc ms Post PT pc L (.int v :: .ref c9 :: st) x := r_put (C9 := RX3) (T := TX3) (N := 13) tyX3 0 hin_3 tyX3_ok nmX3 (by rw [hM]; exact fl_X6_44) rfl (by decide) rfl (by decide +kernel) hd hlay hv k
set_option maxRecDepth 100000 in
theorem fl_X6_49 : Cond.fieldLink RX6 49 (TX3 1).1 (TX3 1).2.1 (TX3 1).2.2.1 ∈ WS := ws_t 78 rfl rfl
theorem gf_X6_49 {M : MD} {R : Room} {mc ms : Nat} {Post : Option Value → XS → Prop} {PT : String → XS → Prop} {pc : Nat} {L : List (Nat × Value)} {st : List Value} {x : XS} {c9 : Nat} {t : List (Option Nat)} {v : Value} (hM : M.1.cls = RX6) (hd : decode M.2.1 pc = .ok (.getfield 49, 3)) (hlay : lay c9 = .inl (3, t)) (hv : fo x c9 1 t = some v) (k : PW M R mc ms Post PT (pc + 3) L (v :: st) x) : PW M R mc ms Post PT pc L (.ref c9 :: st) x := r_get (C9 := RX3) (T := TX3) (N := 13) 1 hin_3 (by rw [hM]; exact fl_X6_49) rfl (by decide) hd hlay hv k
set_option maxRecDepth 100000 in
theorem fl_X6_52 : Cond.fieldLink RX6 52 (TX3 4).1 (TX3 4).2.1 (TX3 4).2.2.1 ∈ WS := ws_t 86 rfl rfl
theorem gf_X6_52 {M : MD} {R : Room} {mc ms : Nat} {Post : Option Value → XS → Prop} {PT : String → XS → Prop} {pc : Nat} {L : List (Nat × Value)} {st : List Value} {x : XS} {c9 : Nat} {t : List (Option Nat)} {v : Value} (hM : M.1.cls = RX6) (hd : decode M.2.1 pc = .ok (.getfield 52, 3)) (hlay : lay c9 = .inl (3, t)) (hv : fo x c9 4 t = some v) (k : PW M R mc ms Post PT (pc + 3) L (v :: st) x) : PW M R mc ms Post PT pc L (.ref c9 :: st) x := r_get (C9 := RX3) (T := TX3) (N := 13) 4 hin_3 (by rw [hM]; exact fl_X6_52) rfl (by decide) hd hlay hv k
set_option maxRecDepth 100000 in
theorem fl_X6_55 : Cond.fieldLink RX6 55 (TX3 7).1 (TX3 7).2.1 (TX3 7).2.2.1 ∈ WS := ws_t 92 rfl rfl
theorem gf_X6_55 {M : MD} {R : Room} {mc ms : Nat} {Post : Option Value → XS → Prop} {PT : String → XS → Prop} {pc : Nat} {L : List (Nat × Value)} {st : List Value} {x : XS} {c9 : Nat} {t : List (Option Nat)} {v : Value} (hM : M.1.cls = RX6) (hd : decode M.2.1 pc = .ok (.getfield 55, 3)) (hlay : lay c9 = .inl (3, t)) (hv : fo x c9 7 t = some v) (k : PW M R mc ms Post PT (pc + 3) L (v :: st) x) : PW M R mc ms Post PT pc L (.ref c9 :: st) x := r_get (C9 := RX3) (T := TX3) (N := 13) 7 hin_3 (by rw [hM]; exact fl_X6_55) rfl (by decide) hd hlay hv k
set_option maxRecDepth 100000 in
theorem fl_X6_58 : Cond.fieldLink RX6 58 (TX3 11).1 (TX3 11).2.1 (TX3 11).2.2.1 ∈ WS := ws_t 98 rfl rfl
theorem gf_X6_58 {M : MD} {R : Room} {mc ms : Nat} {Post : Option Value → XS → Prop} {PT : String → XS → Prop} {pc : Nat} {L : List (Nat × Value)} {st : List Value} {x : XS} {c9 : Nat} {t : List (Option Nat)} {v : Value} (hM : M.1.cls = RX6) (hd : decode M.2.1 pc = .ok (.getfield 58, 3)) (hlay : lay c9 = .inl (3, t)) (hv : fo x c9 11 t = some v) (k : PW M R mc ms Post PT (pc + 3) L (v :: st) x) : PW M R mc ms Post PT pc L (.ref c9 :: st) x := r_get (C9 := RX3) (T := TX3) (N := 13) 11 hin_3 (by rw [hM]; exact fl_X6_58) rfl (by decide) hd hlay hv k
theorem pf_X6_58 {M : MD} {R : Room} {mc ms : Nat} {Post : Option Value → XS → Prop} {PT : String → XS → Prop} {pc : Nat} {L : List (Nat × Value)} {st : List Value} {x : XS} {c9 : Nat} {t : List (Option Nat)} {v : Int32} (hM : M.1.cls = RX6) (hd : decode M.2.1 pc = .ok (.putfield 58, 3)) (hlay : lay c9 = .inl (3, t)) (hv : t[11]? = some none) (k : PW M R mc ms Post PT (pc + 3) L st (xu x c9 11 v)) : PW M R mc ms Post PT pc L (.int v :: .ref c9 :: st) x := r_put (C9 := RX3) (T := TX3) (N := 13) tyX3 11 hin_3 tyX3_ok nmX3 (by rw [hM]; exact fl_X6_58) rfl (by decide) rfl (by decide +kernel) hd hlay hv k
set_option maxRecDepth 100000 in
theorem fl_X6_92 : Cond.fieldLink RX6 92 (TX3 3).1 (TX3 3).2.1 (TX3 3).2.2.1 ∈ WS := ws_t 84 rfl rfl
theorem gf_X6_92 {M : MD} {R : Room} {mc ms : Nat} {Post : Option Value → XS → Prop} {PT : String → XS → Prop} {pc : Nat} {L : List (Nat × Value)} {st : List Value} {x : XS} {c9 : Nat} {t : List (Option Nat)} {v : Value} (hM : M.1.cls = RX6) (hd : decode M.2.1 pc = .ok (.getfield 92, 3)) (hlay : lay c9 = .inl (3, t)) (hv : fo x c9 3 t = some v) (k : PW M R mc ms Post PT (pc + 3) L (v :: st) x) : PW M R mc ms Post PT pc L (.ref c9 :: st) x := r_get (C9 := RX3) (T := TX3) (N := 13) 3 hin_3 (by rw [hM]; exact fl_X6_92) rfl (by decide) hd hlay hv k
set_option maxRecDepth 100000 in
theorem fl_X6_95 : Cond.fieldLink RX6 95 (TX3 5).1 (TX3 5).2.1 (TX3 5).2.2.1 ∈ WS := ws_t 88 rfl rfl
theorem gf_X6_95 {M : MD} {R : Room} {mc ms : Nat} {Post : Option Value → XS → Prop} {PT : String → XS → Prop} {pc : Nat} {L : List (Nat × Value)} {st : List Value} {x : XS} {c9 : Nat} {t : List (Option Nat)} {v : Value} (hM : M.1.cls = RX6) (hd : decode M.2.1 pc = .ok (.getfield 95, 3)) (hlay : lay c9 = .inl (3, t)) (hv : fo x c9 5 t = some v) (k : PW M R mc ms Post PT (pc + 3) L (v :: st) x) : PW M R mc ms Post PT pc L (.ref c9 :: st) x := r_get (C9 := RX3) (T := TX3) (N := 13) 5 hin_3 (by rw [hM]; exact fl_X6_95) rfl (by decide) hd hlay hv k
set_option maxRecDepth 100000 in
theorem fl_X6_98 : Cond.fieldLink RX6 98 (TX3 6).1 (TX3 6).2.1 (TX3 6).2.2.1 ∈ WS := ws_t 90 rfl rfl
theorem gf_X6_98 {M : MD} {R : Room} {mc ms : Nat} {Post : Option Value → XS → Prop} {PT : String → XS → Prop} {pc : Nat} {L : List (Nat × Value)} {st : List Value} {x : XS} {c9 : Nat} {t : List (Option Nat)} {v : Value} (hM : M.1.cls = RX6) (hd : decode M.2.1 pc = .ok (.getfield 98, 3)) (hlay : lay c9 = .inl (3, t)) (hv : fo x c9 6 t = some v) (k : PW M R mc ms Post PT (pc + 3) L (v :: st) x) : PW M R mc ms Post PT pc L (.ref c9 :: st) x := r_get (C9 := RX3) (T := TX3) (N := 13) 6 hin_3 (by rw [hM]; exact fl_X6_98) rfl (by decide) hd hlay hv k
set_option maxRecDepth 100000 in
theorem fl_X6_101 : Cond.fieldLink RX6 101 (TX3 2).1 (TX3 2).2.1 (TX3 2).2.2.1 ∈ WS := ws_t 81 rfl rfl
theorem gf_X6_101 {M : MD} {R : Room} {mc ms : Nat} {Post : Option Value → XS → Prop} {PT : String → XS → Prop} {pc : Nat} {L : List (Nat × Value)} {st : List Value} {x : XS} {c9 : Nat} {t : List (Option Nat)} {v : Value} (hM : M.1.cls = RX6) (hd : decode M.2.1 pc = .ok (.getfield 101, 3)) (hlay : lay c9 = .inl (3, t)) (hv : fo x c9 2 t = some v) (k : PW M R mc ms Post PT (pc + 3) L (v :: st) x) : PW M R mc ms Post PT pc L (.ref c9 :: st) x := r_get (C9 := RX3) (T := TX3) (N := 13) 2 hin_3 (by rw [hM]; exact fl_X6_101) rfl (by decide) hd hlay hv k
set_option maxRecDepth 100000 in
theorem fl_X6_128 : Cond.fieldLink RX6 128 (TX3 12).1 (TX3 12).2.1 (TX3 12).2.2.1 ∈ WS := ws_t 101 rfl rfl
theorem gf_X6_128 {M : MD} {R : Room} {mc ms : Nat} {Post : Option Value → XS → Prop} {PT : String → XS → Prop} {pc : Nat} {L : List (Nat × Value)} {st : List Value} {x : XS} {c9 : Nat} {t : List (Option Nat)} {v : Value} (hM : M.1.cls = RX6) (hd : decode M.2.1 pc = .ok (.getfield 128, 3)) (hlay : lay c9 = .inl (3, t)) (hv : fo x c9 12 t = some v) (k : PW M R mc ms Post PT (pc + 3) L (v :: st) x) : PW M R mc ms Post PT pc L (.ref c9 :: st) x := r_get (C9 := RX3) (T := TX3) (N := 13) 12 hin_3 (by rw [hM]; exact fl_X6_128) rfl (by decide) hd hlay hv k
theorem pf_X6_128 {M : MD} {R : Room} {mc ms : Nat} {Post : Option Value → XS → Prop} {PT : String → XS → Prop} {pc : Nat} {L : List (Nat × Value)} {st : List Value} {x : XS} {c9 : Nat} {t : List (Option Nat)} {v : Int32} (hM : M.1.cls = RX6) (hd : decode M.2.1 pc = .ok (.putfield 128, 3)) (hlay : lay c9 = .inl (3, t)) (hv : t[12]? = some none) (k : PW M R mc ms Post PT (pc + 3) L st (xu x c9 12 v)) : PW M R mc ms Post PT pc L (.int v :: .ref c9 :: st) x := r_put (C9 := RX3) (T := TX3) (N := 13) tyX3 12 hin_3 tyX3_ok nmX3 (by rw [hM]; exact fl_X6_128) rfl (by decide) rfl (by decide +kernel) hd hlay hv k
set_option maxRecDepth 100000 in
theorem fl_X7_9 : Cond.fieldLink RX7 9 (TX7 0).1 (TX7 0).2.1 (TX7 0).2.2.1 ∈ WS := ws_t 171 rfl rfl
theorem gf_X7_9 {M : MD} {R : Room} {mc ms : Nat} {Post : Option Value → XS → Prop} {PT : String → XS → Prop} {pc : Nat} {L : List (Nat × Value)} {st : List Value} {x : XS} {c9 : Nat} {t : List (Option Nat)} {v : Value} (hM : M.1.cls = RX7) (hd : decode M.2.1 pc = .ok (.getfield 9, 3)) (hlay : lay c9 = .inl (7, t)) (hv : fo x c9 0 t = some v) (k : PW M R mc ms Post PT (pc + 3) L (v :: st) x) : PW M R mc ms Post PT pc L (.ref c9 :: st) x := r_get (C9 := RX7) (T := TX7) (N := 7) 0 hin_7 (by rw [hM]; exact fl_X7_9) rfl (by decide) hd hlay hv k
set_option maxRecDepth 100000 in
theorem fl_X7_15 : Cond.fieldLink RX7 15 (TX7 1).1 (TX7 1).2.1 (TX7 1).2.2.1 ∈ WS := ws_t 172 rfl rfl
theorem gf_X7_15 {M : MD} {R : Room} {mc ms : Nat} {Post : Option Value → XS → Prop} {PT : String → XS → Prop} {pc : Nat} {L : List (Nat × Value)} {st : List Value} {x : XS} {c9 : Nat} {t : List (Option Nat)} {v : Value} (hM : M.1.cls = RX7) (hd : decode M.2.1 pc = .ok (.getfield 15, 3)) (hlay : lay c9 = .inl (7, t)) (hv : fo x c9 1 t = some v) (k : PW M R mc ms Post PT (pc + 3) L (v :: st) x) : PW M R mc ms Post PT pc L (.ref c9 :: st) x := r_get (C9 := RX7) (T := TX7) (N := 7) 1 hin_7 (by rw [hM]; exact fl_X7_15) rfl (by decide) hd hlay hv k
set_option maxRecDepth 100000 in
theorem fl_X7_18 : Cond.fieldLink RX7 18 (TX7 2).1 (TX7 2).2.1 (TX7 2).2.2.1 ∈ WS := ws_t 173 rfl rfl
theorem gf_X7_18 {M : MD} {R : Room} {mc ms : Nat} {Post : Option Value → XS → Prop} {PT : String → XS → Prop} {pc : Nat} {L : List (Nat × Value)} {st : List Value} {x : XS} {c9 : Nat} {t : List (Option Nat)} {v : Value} (hM : M.1.cls = RX7) (hd : decode M.2.1 pc = .ok (.getfield 18, 3)) (hlay : lay c9 = .inl (7, t)) (hv : fo x c9 2 t = some v) (k : PW M R mc ms Post PT (pc + 3) L (v :: st) x) : PW M R mc ms Post PT pc L (.ref c9 :: st) x := r_get (C9 := RX7) (T := TX7) (N := 7) 2 hin_7 (by rw [hM]; exact fl_X7_18) rfl (by decide) hd hlay hv k
set_option maxRecDepth 100000 in
theorem fl_X7_21 : Cond.fieldLink RX7 21 (TX7 3).1 (TX7 3).2.1 (TX7 3).2.2.1 ∈ WS := ws_t 174 rfl rfl
theorem gf_X7_21 {M : MD} {R : Room} {mc ms : Nat} {Post : Option Value → XS → Prop} {PT : String → XS → Prop} {pc : Nat} {L : List (Nat × Value)} {st : List Value} {x : XS} {c9 : Nat} {t : List (Option Nat)} {v : Value} (hM : M.1.cls = RX7) (hd : decode M.2.1 pc = .ok (.getfield 21, 3)) (hlay : lay c9 = .inl (7, t)) (hv : fo x c9 3 t = some v) (k : PW M R mc ms Post PT (pc + 3) L (v :: st) x) : PW M R mc ms Post PT pc L (.ref c9 :: st) x := r_get (C9 := RX7) (T := TX7) (N := 7) 3 hin_7 (by rw [hM]; exact fl_X7_21) rfl (by decide) hd hlay hv k
theorem pf_X7_21 {M : MD} {R : Room} {mc ms : Nat} {Post : Option Value → XS → Prop} {PT : String → XS → Prop} {pc : Nat} {L : List (Nat × Value)} {st : List Value} {x : XS} {c9 : Nat} {t : List (Option Nat)} {v : Int32} (hM : M.1.cls = RX7) (hd : decode M.2.1 pc = .ok (.putfield 21, 3)) (hlay : lay c9 = .inl (7, t)) (hv : t[3]? = some none) (k : PW M R mc ms Post PT (pc + 3) L st (xu x c9 3 v)) : PW M R mc ms Post PT pc L (.int v :: .ref c9 :: st) x := r_put (C9 := RX7) (T := TX7) (N := 7) tyX7 3 hin_7 tyX7_ok nmX7 (by rw [hM]; exact fl_X7_21) rfl (by decide) rfl (by decide +kernel) hd hlay hv k
set_option maxRecDepth 100000 in
theorem fl_X7_25 : Cond.fieldLink RX7 25 (TX7 4).1 (TX7 4).2.1 (TX7 4).2.2.1 ∈ WS := ws_t 176 rfl rfl
theorem gf_X7_25 {M : MD} {R : Room} {mc ms : Nat} {Post : Option Value → XS → Prop} {PT : String → XS → Prop} {pc : Nat} {L : List (Nat × Value)} {st : List Value} {x : XS} {c9 : Nat} {t : List (Option Nat)} {v : Value} (hM : M.1.cls = RX7) (hd : decode M.2.1 pc = .ok (.getfield 25, 3)) (hlay : lay c9 = .inl (7, t)) (hv : fo x c9 4 t = some v) (k : PW M R mc ms Post PT (pc + 3) L (v :: st) x) : PW M R mc ms Post PT pc L (.ref c9 :: st) x := r_get (C9 := RX7) (T := TX7) (N := 7) 4 hin_7 (by rw [hM]; exact fl_X7_25) rfl (by decide) hd hlay hv k
theorem pf_X7_25 {M : MD} {R : Room} {mc ms : Nat} {Post : Option Value → XS → Prop} {PT : String → XS → Prop} {pc : Nat} {L : List (Nat × Value)} {st : List Value} {x : XS} {c9 : Nat} {t : List (Option Nat)} {v : Int32} (hM : M.1.cls = RX7) (hd : decode M.2.1 pc = .ok (.putfield 25, 3)) (hlay : lay c9 = .inl (7, t)) (hv : t[4]? = some none) (k : PW M R mc ms Post PT (pc + 3) L st (xu x c9 4 v)) : PW M R mc ms Post PT pc L (.int v :: .ref c9 :: st) x := r_put (C9 := RX7) (T := TX7) (N := 7) tyX7 4 hin_7 tyX7_ok nmX7 (by rw [hM]; exact fl_X7_25) rfl (by decide) rfl (by decide +kernel) hd hlay hv k
set_option maxRecDepth 100000 in
theorem fl_X7_28 : Cond.fieldLink RX7 28 (TX7 5).1 (TX7 5).2.1 (TX7 5).2.2.1 ∈ WS := ws_t 177 rfl rfl
theorem gf_X7_28 {M : MD} {R : Room} {mc ms : Nat} {Post : Option Value → XS → Prop} {PT : String → XS → Prop} {pc : Nat} {L : List (Nat × Value)} {st : List Value} {x : XS} {c9 : Nat} {t : List (Option Nat)} {v : Value} (hM : M.1.cls = RX7) (hd : decode M.2.1 pc = .ok (.getfield 28, 3)) (hlay : lay c9 = .inl (7, t)) (hv : fo x c9 5 t = some v) (k : PW M R mc ms Post PT (pc + 3) L (v :: st) x) : PW M R mc ms Post PT pc L (.ref c9 :: st) x := r_get (C9 := RX7) (T := TX7) (N := 7) 5 hin_7 (by rw [hM]; exact fl_X7_28) rfl (by decide) hd hlay hv k
theorem pf_X7_28 {M : MD} {R : Room} {mc ms : Nat} {Post : Option Value → XS → Prop} {PT : String → XS → Prop} {pc : Nat} {L : List (Nat × Value)} {st : List Value} {x : XS} {c9 : Nat} {t : List (Option Nat)} {v : Int32} (hM : M.1.cls = RX7) (hd : decode M.2.1 pc = .ok (.putfield 28, 3)) (hlay : lay c9 = .inl (7, t)) (hv : t[5]? = some none) (k : PW M R mc ms Post PT (pc + 3) L st (xu x c9 5 v)) : PW M R mc ms Post PT pc L (.int v :: .ref c9 :: st) x := r_put (C9 := RX7) (T := TX7) (N := 7) tyX7 5 hin_7 tyX7_ok nmX7 (by rw [hM]; exact fl_X7_28) rfl (by decide) rfl (by decide +kernel) hd hlay hv k
set_option maxRecDepth 100000 in
theorem fl_X7_31 : Cond.fieldLink RX7 31 (TX7 6).1 (TX7 6).2.1 (TX7 6).2.2.1 ∈ WS := ws_t 179 rfl rfl
theorem gf_X7_31 {M : MD} {R : Room} {mc ms : Nat} {Post : Option Value → XS → Prop} {PT : String → XS → Prop} {pc : Nat} {L : List (Nat × Value)} {st : List Value} {x : XS} {c9 : Nat} {t : List (Option Nat)} {v : Value} (hM : M.1.cls = RX7) (hd : decode M.2.1 pc = .ok (.getfield 31, 3)) (hlay : lay c9 = .inl (7, t)) (hv : fo x c9 6 t = some v) (k : PW M R mc ms Post PT (pc + 3) L (v :: st) x) : PW M R mc ms Post PT pc L (.ref c9 :: st) x := r_get (C9 := RX7) (T := TX7) (N := 7) 6 hin_7 (by rw [hM]; exact fl_X7_31) rfl (by decide) hd hlay hv k
theorem pf_X7_31 {M : MD} {R : Room} {mc ms : Nat} {Post : Option Value → XS → Prop} {PT : String → XS → Prop} {pc : Nat} {L : List (Nat × Value)} {st : List Value} {x : XS} {c9 : Nat} {t : List (Option Nat)} {v : Int32} (hM : M.1.cls = RX7) (hd : decode M.2.1 pc = .ok (.putfield 31, 3)) (hlay : lay c9 = .inl (7, t)) (hv : t[6]? = some none) (k : PW M R mc ms Post PT (pc + 3) L st (xu x c9 6 v)) : PW M R mc ms Post PT pc L (.int v :: .ref c9 :: st) x := r_put (C9 := RX7) (T := TX7) (N := 7) tyX7 6 hin_7 tyX7_ok nmX7 (by rw [hM]; exact fl_X7_31) rfl (by decide) rfl (by decide +kernel) hd hlay hv k
set_option maxRecDepth 100000 in
theorem fl_X7_76 : Cond.fieldLink RX7 76 (TX8 6).1 (TX8 6).2.1 (TX8 6).2.2.1 ∈ WS := ws_t 50 rfl rfl
theorem gf_X7_76 {M : MD} {R : Room} {mc ms : Nat} {Post : Option Value → XS → Prop} {PT : String → XS → Prop} {pc : Nat} {L : List (Nat × Value)} {st : List Value} {x : XS} {c9 : Nat} {t : List (Option Nat)} {v : Value} (hM : M.1.cls = RX7) (hd : decode M.2.1 pc = .ok (.getfield 76, 3)) (hlay : lay c9 = .inl (8, t)) (hv : fo x c9 6 t = some v) (k : PW M R mc ms Post PT (pc + 3) L (v :: st) x) : PW M R mc ms Post PT pc L (.ref c9 :: st) x := r_get (C9 := RX8) (T := TX8) (N := 7) 6 hin_8 (by rw [hM]; exact fl_X7_76) rfl (by decide) hd hlay hv k
theorem pf_X7_76 {M : MD} {R : Room} {mc ms : Nat} {Post : Option Value → XS → Prop} {PT : String → XS → Prop} {pc : Nat} {L : List (Nat × Value)} {st : List Value} {x : XS} {c9 : Nat} {t : List (Option Nat)} {v : Int32} (hM : M.1.cls = RX7) (hd : decode M.2.1 pc = .ok (.putfield 76, 3)) (hlay : lay c9 = .inl (8, t)) (hv : t[6]? = some none) (k : PW M R mc ms Post PT (pc + 3) L st (xu x c9 6 v)) : PW M R mc ms Post PT pc L (.int v :: .ref c9 :: st) x := r_put (C9 := RX8) (T := TX8) (N := 7) tyX8 6 hin_8 tyX8_ok nmX8 (by rw [hM]; exact fl_X7_76) rfl (by decide) rfl (by decide +kernel) hd hlay hv k
set_option maxRecDepth 100000 in
theorem fl_X8_9 : Cond.fieldLink RX8 9 (TX8 0).1 (TX8 0).2.1 (TX8 0).2.2.1 ∈ WS := ws_t 38 rfl rfl
theorem gf_X8_9 {M : MD} {R : Room} {mc ms : Nat} {Post : Option Value → XS → Prop} {PT : String → XS → Prop} {pc : Nat} {L : List (Nat × Value)} {st : List Value} {x : XS} {c9 : Nat} {t : List (Option Nat)} {v : Value} (hM : M.1.cls = RX8) (hd : decode M.2.1 pc = .ok (.getfield 9, 3)) (hlay : lay c9 = .inl (8, t)) (hv : fo x c9 0 t = some v) (k : PW M R mc ms Post PT (pc + 3) L (v :: st) x) : PW M R mc ms Post PT pc L (.ref c9 :: st) x := r_get (C9 := RX8) (T := TX8) (N := 7) 0 hin_8 (by rw [hM]; exact fl_X8_9) rfl (by decide) hd hlay hv k
set_option maxRecDepth 100000 in
theorem fl_X8_15 : Cond.fieldLink RX8 15 (TX8 1).1 (TX8 1).2.1 (TX8 1).2.2.1 ∈ WS := ws_t 39 rfl rfl
theorem gf_X8_15 {M : MD} {R : Room} {mc ms : Nat} {Post : Option Value → XS → Prop} {PT : String → XS → Prop} {pc : Nat} {L : List (Nat × Value)} {st : List Value} {x : XS} {c9 : Nat} {t : List (Option Nat)} {v : Value} (hM : M.1.cls = RX8) (hd : decode M.2.1 pc = .ok (.getfield 15, 3)) (hlay : lay c9 = .inl (8, t)) (hv : fo x c9 1 t = some v) (k : PW M R mc ms Post PT (pc + 3) L (v :: st) x) : PW M R mc ms Post PT pc L (.ref c9 :: st) x := r_get (C9 := RX8) (T := TX8) (N := 7) 1 hin_8 (by rw [hM]; exact fl_X8_15) rfl (by decide) hd hlay hv k
theorem pf_X8_15 {M : MD} {R : Room} {mc ms : Nat} {Post : Option Value → XS → Prop} {PT : String → XS → Prop} {pc : Nat} {L : List (Nat × Value)} {st : List Value} {x : XS} {c9 : Nat} {t : List (Option Nat)} {v : Int32} (hM : M.1.cls = RX8) (hd : decode M.2.1 pc = .ok (.putfield 15, 3)) (hlay : lay c9 = .inl (8, t)) (hv : t[1]? = some none) (k : PW M R mc ms Post PT (pc + 3) L st (xu x c9 1 v)) : PW M R mc ms Post PT pc L (.int v :: .ref c9 :: st) x := r_put (C9 := RX8) (T := TX8) (N := 7) tyX8 1 hin_8 tyX8_ok nmX8 (by rw [hM]; exact fl_X8_15) rfl (by decide) rfl (by decide +kernel) hd hlay hv k
set_option maxRecDepth 100000 in
theorem fl_X8_19 : Cond.fieldLink RX8 19 (TX8 2).1 (TX8 2).2.1 (TX8 2).2.2.1 ∈ WS := ws_t 41 rfl rfl
theorem gf_X8_19 {M : MD} {R : Room} {mc ms : Nat} {Post : Option Value → XS → Prop} {PT : String → XS → Prop} {pc : Nat} {L : List (Nat × Value)} {st : List Value} {x : XS} {c9 : Nat} {t : List (Option Nat)} {v : Value} (hM : M.1.cls = RX8) (hd : decode M.2.1 pc = .ok (.getfield 19, 3)) (hlay : lay c9 = .inl (8, t)) (hv : fo x c9 2 t = some v) (k : PW M R mc ms Post PT (pc + 3) L (v :: st) x) : PW M R mc ms Post PT pc L (.ref c9 :: st) x := r_get (C9 := RX8) (T := TX8) (N := 7) 2 hin_8 (by rw [hM]; exact fl_X8_19) rfl (by decide) hd hlay hv k
theorem pf_X8_19 {M : MD} {R : Room} {mc ms : Nat} {Post : Option Value → XS → Prop} {PT : String → XS → Prop} {pc : Nat} {L : List (Nat × Value)} {st : List Value} {x : XS} {c9 : Nat} {t : List (Option Nat)} {v : Int32} (hM : M.1.cls = RX8) (hd : decode M.2.1 pc = .ok (.putfield 19, 3)) (hlay : lay c9 = .inl (8, t)) (hv : t[2]? = some none) (k : PW M R mc ms Post PT (pc + 3) L st (xu x c9 2 v)) : PW M R mc ms Post PT pc L (.int v :: .ref c9 :: st) x := r_put (C9 := RX8) (T := TX8) (N := 7) tyX8 2 hin_8 tyX8_ok nmX8 (by rw [hM]; exact fl_X8_19) rfl (by decide) rfl (by decide +kernel) hd hlay hv k
set_option maxRecDepth 100000 in
theorem fl_X8_22 : Cond.fieldLink RX8 22 (TX8 3).1 (TX8 3).2.1 (TX8 3).2.2.1 ∈ WS := ws_t 42 rfl rfl
theorem gf_X8_22 {M : MD} {R : Room} {mc ms : Nat} {Post : Option Value → XS → Prop} {PT : String → XS → Prop} {pc : Nat} {L : List (Nat × Value)} {st : List Value} {x : XS} {c9 : Nat} {t : List (Option Nat)} {v : Value} (hM : M.1.cls = RX8) (hd : decode M.2.1 pc = .ok (.getfield 22, 3)) (hlay : lay c9 = .inl (8, t)) (hv : fo x c9 3 t = some v) (k : PW M R mc ms Post PT (pc + 3) L (v :: st) x) : PW M R mc ms Post PT pc L (.ref c9 :: st) x := r_get (C9 := RX8) (T := TX8) (N := 7) 3 hin_8 (by rw [hM]; exact fl_X8_22) rfl (by decide) hd hlay hv k
theorem pf_X8_22 {M : MD} {R : Room} {mc ms : Nat} {Post : Option Value → XS → Prop} {PT : String → XS → Prop} {pc : Nat} {L : List (Nat × Value)} {st : List Value} {x : XS} {c9 : Nat} {t : List (Option Nat)} {v : Int32} (hM : M.1.cls = RX8) (hd : decode M.2.1 pc = .ok (.putfield 22, 3)) (hlay : lay c9 = .inl (8, t)) (hv : t[3]? = some none) (k : PW M R mc ms Post PT (pc + 3) L st (xu x c9 3 v)) : PW M R mc ms Post PT pc L (.int v :: .ref c9 :: st) x := r_put (C9 := RX8) (T := TX8) (N := 7) tyX8 3 hin_8 tyX8_ok nmX8 (by rw [hM]; exact fl_X8_22) rfl (by decide) rfl (by decide +kernel) hd hlay hv k
set_option maxRecDepth 100000 in
theorem fl_X8_25 : Cond.fieldLink RX8 25 (TX8 4).1 (TX8 4).2.1 (TX8 4).2.2.1 ∈ WS := ws_t 43 rfl rfl
theorem gf_X8_25 {M : MD} {R : Room} {mc ms : Nat} {Post : Option Value → XS → Prop} {PT : String → XS → Prop} {pc : Nat} {L : List (Nat × Value)} {st : List Value} {x : XS} {c9 : Nat} {t : List (Option Nat)} {v : Value} (hM : M.1.cls = RX8) (hd : decode M.2.1 pc = .ok (.getfield 25, 3)) (hlay : lay c9 = .inl (8, t)) (hv : fo x c9 4 t = some v) (k : PW M R mc ms Post PT (pc + 3) L (v :: st) x) : PW M R mc ms Post PT pc L (.ref c9 :: st) x := r_get (C9 := RX8) (T := TX8) (N := 7) 4 hin_8 (by rw [hM]; exact fl_X8_25) rfl (by decide) hd hlay hv k
theorem pf_X8_25 {M : MD} {R : Room} {mc ms : Nat} {Post : Option Value → XS → Prop} {PT : String → XS → Prop} {pc : Nat} {L : List (Nat × Value)} {st : List Value} {x : XS} {c9 : Nat} {t : List (Option Nat)} {v : Int32} (hM : M.1.cls = RX8) (hd : decode M.2.1 pc = .ok (.putfield 25, 3)) (hlay : lay c9 = .inl (8, t)) (hv : t[4]? = some none) (k : PW M R mc ms Post PT (pc + 3) L st (xu x c9 4 v)) : PW M R mc ms Post PT pc L (.int v :: .ref c9 :: st) x := r_put (C9 := RX8) (T := TX8) (N := 7) tyX8 4 hin_8 tyX8_ok nmX8 (by rw [hM]; exact fl_X8_25) rfl (by decide) rfl (by decide +kernel) hd hlay hv k
set_option maxRecDepth 100000 in
theorem fl_X8_28 : Cond.fieldLink RX8 28 (TX8 5).1 (TX8 5).2.1 (TX8 5).2.2.1 ∈ WS := ws_t 45 rfl rfl
theorem gf_X8_28 {M : MD} {R : Room} {mc ms : Nat} {Post : Option Value → XS → Prop} {PT : String → XS → Prop} {pc : Nat} {L : List (Nat × Value)} {st : List Value} {x : XS} {c9 : Nat} {t : List (Option Nat)} {v : Value} (hM : M.1.cls = RX8) (hd : decode M.2.1 pc = .ok (.getfield 28, 3)) (hlay : lay c9 = .inl (8, t)) (hv : fo x c9 5 t = some v) (k : PW M R mc ms Post PT (pc + 3) L (v :: st) x) : PW M R mc ms Post PT pc L (.ref c9 :: st) x := r_get (C9 := RX8) (T := TX8) (N := 7) 5 hin_8 (by rw [hM]; exact fl_X8_28) rfl (by decide) hd hlay hv k
theorem pf_X8_28 {M : MD} {R : Room} {mc ms : Nat} {Post : Option Value → XS → Prop} {PT : String → XS → Prop} {pc : Nat} {L : List (Nat × Value)} {st : List Value} {x : XS} {c9 : Nat} {t : List (Option Nat)} {v : Int32} (hM : M.1.cls = RX8) (hd : decode M.2.1 pc = .ok (.putfield 28, 3)) (hlay : lay c9 = .inl (8, t)) (hv : t[5]? = some none) (k : PW M R mc ms Post PT (pc + 3) L st (xu x c9 5 v)) : PW M R mc ms Post PT pc L (.int v :: .ref c9 :: st) x := r_put (C9 := RX8) (T := TX8) (N := 7) tyX8 5 hin_8 tyX8_ok nmX8 (by rw [hM]; exact fl_X8_28) rfl (by decide) rfl (by decide +kernel) hd hlay hv k
set_option maxRecDepth 100000 in
theorem fl_X8_31 : Cond.fieldLink RX8 31 (TX8 6).1 (TX8 6).2.1 (TX8 6).2.2.1 ∈ WS := ws_t 47 rfl rfl
theorem gf_X8_31 {M : MD} {R : Room} {mc ms : Nat} {Post : Option Value → XS → Prop} {PT : String → XS → Prop} {pc : Nat} {L : List (Nat × Value)} {st : List Value} {x : XS} {c9 : Nat} {t : List (Option Nat)} {v : Value} (hM : M.1.cls = RX8) (hd : decode M.2.1 pc = .ok (.getfield 31, 3)) (hlay : lay c9 = .inl (8, t)) (hv : fo x c9 6 t = some v) (k : PW M R mc ms Post PT (pc + 3) L (v :: st) x) : PW M R mc ms Post PT pc L (.ref c9 :: st) x := r_get (C9 := RX8) (T := TX8) (N := 7) 6 hin_8 (by rw [hM]; exact fl_X8_31) rfl (by decide) hd hlay hv k
theorem pf_X8_31 {M : MD} {R : Room} {mc ms : Nat} {Post : Option Value → XS → Prop} {PT : String → XS → Prop} {pc : Nat} {L : List (Nat × Value)} {st : List Value} {x : XS} {c9 : Nat} {t : List (Option Nat)} {v : Int32} (hM : M.1.cls = RX8) (hd : decode M.2.1 pc = .ok (.putfield 31, 3)) (hlay : lay c9 = .inl (8, t)) (hv : t[6]? = some none) (k : PW M R mc ms Post PT (pc + 3) L st (xu x c9 6 v)) : PW M R mc ms Post PT pc L (.int v :: .ref c9 :: st) x := r_put (C9 := RX8) (T := TX8) (N := 7) tyX8 6 hin_8 tyX8_ok nmX8 (by rw [hM]; exact fl_X8_31) rfl (by decide) rfl (by decide +kernel) hd hlay hv k
set_option maxRecDepth 100000 in
theorem fl_X10_3 : Cond.fieldLink RX10 3 (TX10 0).1 (TX10 0).2.1 (TX10 0).2.2.1 ∈ WS := ws_t 1170 rfl rfl
theorem gf_X10_3 {M : MD} {R : Room} {mc ms : Nat} {Post : Option Value → XS → Prop} {PT : String → XS → Prop} {pc : Nat} {L : List (Nat × Value)} {st : List Value} {x : XS} {c9 : Nat} {t : List (Option Nat)} {v : Value} (hM : M.1.cls = RX10) (hd : decode M.2.1 pc = .ok (.getfield 3, 3)) (hlay : lay c9 = .inl (10, t)) (hv : fo x c9 0 t = some v) (k : PW M R mc ms Post PT (pc + 3) L (v :: st) x) : PW M R mc ms Post PT pc L (.ref c9 :: st) x := r_get (C9 := RX10) (T := TX10) (N := 53) 0 hin_10 (by rw [hM]; exact fl_X10_3) rfl (by decide) hd hlay hv k
theorem pf_X10_3 {M : MD} {R : Room} {mc ms : Nat} {Post : Option Value → XS → Prop} {PT : String → XS → Prop} {pc : Nat} {L : List (Nat × Value)} {st : List Value} {x : XS} {c9 : Nat} {t : List (Option Nat)} {v : Int32} (hM : M.1.cls = RX10) (hd : decode M.2.1 pc = .ok (.putfield 3, 3)) (hlay : lay c9 = .inl (10, t)) (hv : t[0]? = some none) (k : PW M R mc ms Post PT (pc + 3) L st (xu x c9 0 v)) : PW M R mc ms Post PT pc L (.int v :: .ref c9 :: st) x := r_put (C9 := RX10) (T := TX10) (N := 53) tyX10 0 hin_10 tyX10_ok nmX10 (by rw [hM]; exact fl_X10_3) rfl (by decide) rfl (by decide +kernel) hd hlay hv k
set_option maxRecDepth 100000 in
theorem fl_X10_7 : Cond.fieldLink RX10 7 (TX10 1).1 (TX10 1).2.1 (TX10 1).2.2.1 ∈ WS := ws_t 1171 rfl rfl
theorem gf_X10_7 {M : MD} {R : Room} {mc ms : Nat} {Post : Option Value → XS → Prop} {PT : String → XS → Prop} {pc : Nat} {L : List (Nat × Value)} {st : List Value} {x : XS} {c9 : Nat} {t : List (Option Nat)} {v : Value} (hM : M.1.cls = RX10) (hd : decode M.2.1 pc = .ok (.getfield 7, 3)) (hlay : lay c9 = .inl (10, t)) (hv : fo x c9 1 t = some v) (k : PW M R mc ms Post PT (pc + 3) L (v :: st) x) : PW M R mc ms Post PT pc L (.ref c9 :: st) x := r_get (C9 := RX10) (T := TX10) (N := 53) 1 hin_10 (by rw [hM]; exact fl_X10_7) rfl (by decide) hd hlay hv k
set_option maxRecDepth 100000 in
theorem fl_X10_17 : Cond.fieldLink RX10 17 (TX10 8).1 (TX10 8).2.1 (TX10 8).2.2.1 ∈ WS := ws_t 1178 rfl rfl
theorem gf_X10_17 {M : MD} {R : Room} {mc ms : Nat} {Post : Option Value → XS → Prop} {PT : String → XS → Prop} {pc : Nat} {L : List (Nat × Value)} {st : List Value} {x : XS} {c9 : Nat} {t : List (Option Nat)} {v : Value} (hM : M.1.cls = RX10) (hd : decode M.2.1 pc = .ok (.getfield 17, 3)) (hlay : lay c9 = .inl (10, t)) (hv : fo x c9 8 t = some v) (k : PW M R mc ms Post PT (pc + 3) L (v :: st) x) : PW M R mc ms Post PT pc L (.ref c9 :: st) x := r_get (C9 := RX10) (T := TX10) (N := 53) 8 hin_10 (by rw [hM]; exact fl_X10_17) rfl (by decide) hd hlay hv k
theorem pf_X10_17 {M : MD} {R : Room} {mc ms : Nat} {Post : Option Value → XS → Prop} {PT : String → XS → Prop} {pc : Nat} {L : List (Nat × Value)} {st : List Value} {x : XS} {c9 : Nat} {t : List (Option Nat)} {v : Int32} (hM : M.1.cls = RX10) (hd : decode M.2.1 pc = .ok (.putfield 17, 3)) (hlay : lay c9 = .inl (10, t)) (hv : t[8]? = some none) (k : PW M R mc ms Post PT (pc + 3) L st (xu x c9 8 v)) : PW M R mc ms Post PT pc L (.int v :: .ref c9 :: st) x := r_put (C9 := RX10) (T := TX10) (N := 53) tyX10 8 hin_10 tyX10_ok nmX10 (by rw [hM]; exact fl_X10_17) rfl (by decide) rfl (by decide +kernel) hd hlay hv k
set_option maxRecDepth 100000 in
theorem fl_X10_20 : Cond.fieldLink RX10 20 (TX10 9).1 (TX10 9).2.1 (TX10 9).2.2.1 ∈ WS := ws_t 1179 rfl rfl
theorem gf_X10_20 {M : MD} {R : Room} {mc ms : Nat} {Post : Option Value → XS → Prop} {PT : String → XS → Prop} {pc : Nat} {L : List (Nat × Value)} {st : List Value} {x : XS} {c9 : Nat} {t : List (Option Nat)} {v : Value} (hM : M.1.cls = RX10) (hd : decode M.2.1 pc = .ok (.getfield 20, 3)) (hlay : lay c9 = .inl (10, t)) (hv : fo x c9 9 t = some v) (k : PW M R mc ms Post PT (pc + 3) L (v :: st) x) : PW M R mc ms Post PT pc L (.ref c9 :: st) x := r_get (C9 := RX10) (T := TX10) (N := 53) 9 hin_10 (by rw [hM]; exact fl_X10_20) rfl (by decide) hd hlay hv k
set_option maxRecDepth 100000 in
theorem fl_X10_23 : Cond.fieldLink RX10 23 (TX10 10).1 (TX10 10).2.1 (TX10 10).2.2.1 ∈ WS := ws_t 1180 rfl rfl
theorem gf_X10_23 {M : MD} {R : Room} {mc ms : Nat} {Post : Option Value → XS → Prop} {PT : String → XS → Prop} {pc : Nat} {L : List (Nat × Value)} {st : List Value} {x : XS} {c9 : Nat} {t : List (Option Nat)} {v : Value} (hM : M.1.cls = RX10) (hd : decode M.2.1 pc = .ok (.getfield 23, 3)) (hlay : lay c9 = .inl (10, t)) (hv : fo x c9 10 t = some v) (k : PW M R mc ms Post PT (pc + 3) L (v :: st) x) : PW M R mc ms Post PT pc L (.ref c9 :: st) x := r_get (C9 := RX10) (T := TX10) (N := 53) 10 hin_10 (by rw [hM]; exact fl_X10_23) rfl (by decide) hd hlay hv k
set_option maxRecDepth 100000 in
theorem fl_X10_26 : Cond.fieldLink RX10 26 (TX10 11).1 (TX10 11).2.1 (TX10 11).2.2.1 ∈ WS := ws_t 1181 rfl rfl
theorem gf_X10_26 {M : MD} {R : Room} {mc ms : Nat} {Post : Option Value → XS → Prop} {PT : String → XS → Prop} {pc : Nat} {L : List (Nat × Value)} {st : List Value} {x : XS} {c9 : Nat} {t : List (Option Nat)} {v : Value} (hM : M.1.cls = RX10) (hd : decode M.2.1 pc = .ok (.getfield 26, 3)) (hlay : lay c9 = .inl (10, t)) (hv : fo x c9 11 t = some v) (k : PW M R mc ms Post PT (pc + 3) L (v :: st) x) : PW M R mc ms Post PT pc L (.ref c9 :: st) x := r_get (C9 := RX10) (T := TX10) (N := 53) 11 hin_10 (by rw [hM]; exact fl_X10_26) rfl (by decide) hd hlay hv k
set_option maxRecDepth 100000 in
theorem fl_X10_29 : Cond.fieldLink RX10 29 (TX10 12).1 (TX10 12).2.1 (TX10 12).2.2.1 ∈ WS := ws_t 1182 rfl rfl
theorem gf_X10_29 {M : MD} {R : Room} {mc ms : Nat} {Post : Option Value → XS → Prop} {PT : String → XS → Prop} {pc : Nat} {L : List (Nat × Value)} {st : List Value} {x : XS} {c9 : Nat} {t : List (Option Nat)} {v : Value} (hM : M.1.cls = RX10) (hd : decode M.2.1 pc = .ok (.getfield 29, 3)) (hlay : lay c9 = .inl (10, t)) (hv : fo x c9 12 t = some v) (k : PW M R mc ms Post PT (pc + 3) L (v :: st) x) : PW M R mc ms Post PT pc L (.ref c9 :: st) x := r_get (C9 := RX10) (T := TX10) (N := 53) 12 hin_10 (by rw [hM]; exact fl_X10_29) rfl (by decide) hd hlay hv k
set_option maxRecDepth 100000 in
theorem fl_X10_32 : Cond.fieldLink RX10 32 (TX10 13).1 (TX10 13).2.1 (TX10 13).2.2.1 ∈ WS := ws_t 1183 rfl rfl
theorem gf_X10_32 {M : MD} {R : Room} {mc ms : Nat} {Post : Option Value → XS → Prop} {PT : String → XS → Prop} {pc : Nat} {L : List (Nat × Value)} {st : List Value} {x : XS} {c9 : Nat} {t : List (Option Nat)} {v : Value} (hM : M.1.cls = RX10) (hd : decode M.2.1 pc = .ok (.getfield 32, 3)) (hlay : lay c9 = .inl (10, t)) (hv : fo x c9 13 t = some v) (k : PW M R mc ms Post PT (pc + 3) L (v :: st) x) : PW M R mc ms Post PT pc L (.ref c9 :: st) x := r_get (C9 := RX10) (T := TX10) (N := 53) 13 hin_10 (by rw [hM]; exact fl_X10_32) rfl (by decide) hd hlay hv k
set_option maxRecDepth 100000 in
theorem fl_X10_35 : Cond.fieldLink RX10 35 (TX10 21).1 (TX10 21).2.1 (TX10 21).2.2.1 ∈ WS := ws_t 1191 rfl rfl
theorem gf_X10_35 {M : MD} {R : Room} {mc ms : Nat} {Post : Option Value → XS → Prop} {PT : String → XS → Prop} {pc : Nat} {L : List (Nat × Value)} {st : List Value} {x : XS} {c9 : Nat} {t : List (Option Nat)} {v : Value} (hM : M.1.cls = RX10) (hd : decode M.2.1 pc = .ok (.getfield 35, 3)) (hlay : lay c9 = .inl (10, t)) (hv : fo x c9 21 t = some v) (k : PW M R mc ms Post PT (pc + 3) L (v :: st) x) : PW M R mc ms Post PT pc L (.ref c9 :: st) x := r_get (C9 := RX10) (T := TX10) (N := 53) 21 hin_10 (by rw [hM]; exact fl_X10_35) rfl (by decide) hd hlay hv k
set_option maxRecDepth 100000 in
theorem fl_X10_38 : Cond.fieldLink RX10 38 (TX10 22).1 (TX10 22).2.1 (TX10 22).2.2.1 ∈ WS := ws_t 1192 rfl rfl
theorem gf_X10_38 {M : MD} {R : Room} {mc ms : Nat} {Post : Option Value → XS → Prop} {PT : String → XS → Prop} {pc : Nat} {L : List (Nat × Value)} {st : List Value} {x : XS} {c9 : Nat} {t : List (Option Nat)} {v : Value} (hM : M.1.cls = RX10) (hd : decode M.2.1 pc = .ok (.getfield 38, 3)) (hlay : lay c9 = .inl (10, t)) (hv : fo x c9 22 t = some v) (k : PW M R mc ms Post PT (pc + 3) L (v :: st) x) : PW M R mc ms Post PT pc L (.ref c9 :: st) x := r_get (C9 := RX10) (T := TX10) (N := 53) 22 hin_10 (by rw [hM]; exact fl_X10_38) rfl (by decide) hd hlay hv k
set_option maxRecDepth 100000 in
theorem fl_X10_41 : Cond.fieldLink RX10 41 (TX10 23).1 (TX10 23).2.1 (TX10 23).2.2.1 ∈ WS := ws_t 1193 rfl rfl
theorem gf_X10_41 {M : MD} {R : Room} {mc ms : Nat} {Post : Option Value → XS → Prop} {PT : String → XS → Prop} {pc : Nat} {L : List (Nat × Value)} {st : List Value} {x : XS} {c9 : Nat} {t : List (Option Nat)} {v : Value} (hM : M.1.cls = RX10) (hd : decode M.2.1 pc = .ok (.getfield 41, 3)) (hlay : lay c9 = .inl (10, t)) (hv : fo x c9 23 t = some v) (k : PW M R mc ms Post PT (pc + 3) L (v :: st) x) : PW M R mc ms Post PT pc L (.ref c9 :: st) x := r_get (C9 := RX10) (T := TX10) (N := 53) 23 hin_10 (by rw [hM]; exact fl_X10_41) rfl (by decide) hd hlay hv k
set_option maxRecDepth 100000 in
theorem fl_X10_44 : Cond.fieldLink RX10 44 (TX10 24).1 (TX10 24).2.1 (TX10 24).2.2.1 ∈ WS := ws_t 1194 rfl rfl
theorem gf_X10_44 {M : MD} {R : Room} {mc ms : Nat} {Post : Option Value → XS → Prop} {PT : String → XS → Prop} {pc : Nat} {L : List (Nat × Value)} {st : List Value} {x : XS} {c9 : Nat} {t : List (Option Nat)} {v : Value} (hM : M.1.cls = RX10) (hd : decode M.2.1 pc = .ok (.getfield 44, 3)) (hlay : lay c9 = .inl (10, t)) (hv : fo x c9 24 t = some v) (k : PW M R mc ms Post PT (pc + 3) L (v :: st) x) : PW M R mc ms Post PT pc L (.ref c9 :: st) x := r_get (C9 := RX10) (T := TX10) (N := 53) 24 hin_10 (by rw [hM]; exact fl_X10_44) rfl (by decide) hd hlay hv k
set_option maxRecDepth 100000 in
theorem fl_X10_47 : Cond.fieldLink RX10 47 (TX10 25).1 (TX10 25).2.1 (TX10 25).2.2.1 ∈ WS := ws_t 1195 rfl rfl
theorem gf_X10_47 {M : MD} {R : Room} {mc ms : Nat} {Post : Option Value → XS → Prop} {PT : String → XS → Prop} {pc : Nat} {L : List (Nat × Value)} {st : List Value} {x : XS} {c9 : Nat} {t : List (Option Nat)} {v : Value} (hM : M.1.cls = RX10) (hd : decode M.2.1 pc = .ok (.getfield 47, 3)) (hlay : lay c9 = .inl (10, t)) (hv : fo x c9 25 t = some v) (k : PW M R mc ms Post PT (pc + 3) L (v :: st) x) : PW M R mc ms Post PT pc L (.ref c9 :: st) x := r_get (C9 := RX10) (T := TX10) (N := 53) 25 hin_10 (by rw [hM]; exact fl_X10_47) rfl (by decide) hd hlay hv k
set_option maxRecDepth 100000 in
theorem fl_X10_50 : Cond.fieldLink RX10 50 (TX10 26).1 (TX10 26).2.1 (TX10 26).2.2.1 ∈ WS := ws_t 1196 rfl rfl
theorem gf_X10_50 {M : MD} {R : Room} {mc ms : Nat} {Post : Option Value → XS → Prop} {PT : String → XS → Prop} {pc : Nat} {L : List (Nat × Value)} {st : List Value} {x : XS} {c9 : Nat} {t : List (Option Nat)} {v : Value} (hM : M.1.cls = RX10) (hd : decode M.2.1 pc = .ok (.getfield 50, 3)) (hlay : lay c9 = .inl (10, t)) (hv : fo x c9 26 t = some v) (k : PW M R mc ms Post PT (pc + 3) L (v :: st) x) : PW M R mc ms Post PT pc L (.ref c9 :: st) x := r_get (C9 := RX10) (T := TX10) (N := 53) 26 hin_10 (by rw [hM]; exact fl_X10_50) rfl (by decide) hd hlay hv k
set_option maxRecDepth 100000 in
theorem fl_X10_53 : Cond.fieldLink RX10 53 (TX10 28).1 (TX10 28).2.1 (TX10 28).2.2.1 ∈ WS := ws_t 1198 rfl rfl
theorem gf_X10_53 {M : MD} {R : Room} {mc ms : Nat} {Post : Option Value → XS → Prop} {PT : String → XS → Prop} {pc : Nat} {L : List (Nat × Value)} {st : List Value} {x : XS} {c9 : Nat} {t : List (Option Nat)} {v : Value} (hM : M.1.cls = RX10) (hd : decode M.2.1 pc = .ok (.getfield 53, 3)) (hlay : lay c9 = .inl (10, t)) (hv : fo x c9 28 t = some v) (k : PW M R mc ms Post PT (pc + 3) L (v :: st) x) : PW M R mc ms Post PT pc L (.ref c9 :: st) x := r_get (C9 := RX10) (T := TX10) (N := 53) 28 hin_10 (by rw [hM]; exact fl_X10_53) rfl (by decide) hd hlay hv k
set_option maxRecDepth 100000 in
theorem fl_X10_56 : Cond.fieldLink RX10 56 (TX10 29).1 (TX10 29).2.1 (TX10 29).2.2.1 ∈ WS := ws_t 1199 rfl rfl
theorem gf_X10_56 {M : MD} {R : Room} {mc ms : Nat} {Post : Option Value → XS → Prop} {PT : String → XS → Prop} {pc : Nat} {L : List (Nat × Value)} {st : List Value} {x : XS} {c9 : Nat} {t : List (Option Nat)} {v : Value} (hM : M.1.cls = RX10) (hd : decode M.2.1 pc = .ok (.getfield 56, 3)) (hlay : lay c9 = .inl (10, t)) (hv : fo x c9 29 t = some v) (k : PW M R mc ms Post PT (pc + 3) L (v :: st) x) : PW M R mc ms Post PT pc L (.ref c9 :: st) x := r_get (C9 := RX10) (T := TX10) (N := 53) 29 hin_10 (by rw [hM]; exact fl_X10_56) rfl (by decide) hd hlay hv k
set_option maxRecDepth 100000 in
theorem fl_X10_59 : Cond.fieldLink RX10 59 (TX10 30).1 (TX10 30).2.1 (TX10 30).2.2.1 ∈ WS := ws_t 1200 rfl rfl
theorem gf_X10_59 {M : MD} {R : Room} {mc ms : Nat} {Post : Option Value → XS → Prop} {PT : String → XS → Prop} {pc : Nat} {L : List (Nat × Value)} {st : List Value} {x : XS} {c9 : Nat} {t : List (Option Nat)} {v : Value} (hM : M.1.cls = RX10) (hd : decode M.2.1 pc = .ok (.getfield 59, 3)) (hlay : lay c9 = .inl (10, t)) (hv : fo x c9 30 t = some v) (k : PW M R mc ms Post PT (pc + 3) L (v :: st) x) : PW M R mc ms Post PT pc L (.ref c9 :: st) x := r_get (C9 := RX10) (T := TX10) (N := 53) 30 hin_10 (by rw [hM]; exact fl_X10_59) rfl (by decide) hd hlay hv k
set_option maxRecDepth 100000 in
theorem fl_X10_62 : Cond.fieldLink RX10 62 (TX10 37).1 (TX10 37).2.1 (TX10 37).2.2.1 ∈ WS := ws_t 1207 rfl rfl
theorem gf_X10_62 {M : MD} {R : Room} {mc ms : Nat} {Post : Option Value → XS → Prop} {PT : String → XS → Prop} {pc : Nat} {L : List (Nat × Value)} {st : List Value} {x : XS} {c9 : Nat} {t : List (Option Nat)} {v : Value} (hM : M.1.cls = RX10) (hd : decode M.2.1 pc = .ok (.getfield 62, 3)) (hlay : lay c9 = .inl (10, t)) (hv : fo x c9 37 t = some v) (k : PW M R mc ms Post PT (pc + 3) L (v :: st) x) : PW M R mc ms Post PT pc L (.ref c9 :: st) x := r_get (C9 := RX10) (T := TX10) (N := 53) 37 hin_10 (by rw [hM]; exact fl_X10_62) rfl (by decide) hd hlay hv k
set_option maxRecDepth 100000 in
theorem fl_X10_65 : Cond.fieldLink RX10 65 (TX10 38).1 (TX10 38).2.1 (TX10 38).2.2.1 ∈ WS := ws_t 1208 rfl rfl
theorem gf_X10_65 {M : MD} {R : Room} {mc ms : Nat} {Post : Option Value → XS → Prop} {PT : String → XS → Prop} {pc : Nat} {L : List (Nat × Value)} {st : List Value} {x : XS} {c9 : Nat} {t : List (Option Nat)} {v : Value} (hM : M.1.cls = RX10) (hd : decode M.2.1 pc = .ok (.getfield 65, 3)) (hlay : lay c9 = .inl (10, t)) (hv : fo x c9 38 t = some v) (k : PW M R mc ms Post PT (pc + 3) L (v :: st) x) : PW M R mc ms Post PT pc L (.ref c9 :: st) x := r_get (C9 := RX10) (T := TX10) (N := 53) 38 hin_10 (by rw [hM]; exact fl_X10_65) rfl (by decide) hd hlay hv k
set_option maxRecDepth 100000 in
theorem fl_X10_68 : Cond.fieldLink RX10 68 (TX10 39).1 (TX10 39).2.1 (TX10 39).2.2.1 ∈ WS := ws_t 1209 rfl rfl
theorem gf_X10_68 {M : MD} {R : Room} {mc ms : Nat} {Post : Option Value → XS → Prop} {PT : String → XS → Prop} {pc : Nat} {L : List (Nat × Value)} {st : List Value} {x : XS} {c9 : Nat} {t : List (Option Nat)} {v : Value} (hM : M.1.cls = RX10) (hd : decode M.2.1 pc = .ok (.getfield 68, 3)) (hlay : lay c9 = .inl (10, t)) (hv : fo x c9 39 t = some v) (k : PW M R mc ms Post PT (pc + 3) L (v :: st) x) : PW M R mc ms Post PT pc L (.ref c9 :: st) x := r_get (C9 := RX10) (T := TX10) (N := 53) 39 hin_10 (by rw [hM]; exact fl_X10_68) rfl (by decide) hd hlay hv k
set_option maxRecDepth 100000 in
theorem fl_X10_71 : Cond.fieldLink RX10 71 (TX10 40).1 (TX10 40).2.1 (TX10 40).2.2.1 ∈ WS := ws_t 1210 rfl rfl
theorem gf_X10_71 {M : MD} {R : Room} {mc ms : Nat} {Post : Option Value → XS → Prop} {PT : String → XS → Prop} {pc : Nat} {L : List (Nat × Value)} {st : List Value} {x : XS} {c9 : Nat} {t : List (Option Nat)} {v : Value} (hM : M.1.cls = RX10) (hd : decode M.2.1 pc = .ok (.getfield 71, 3)) (hlay : lay c9 = .inl (10, t)) (hv : fo x c9 40 t = some v) (k : PW M R mc ms Post PT (pc + 3) L (v :: st) x) : PW M R mc ms Post PT pc L (.ref c9 :: st) x := r_get (C9 := RX10) (T := TX10) (N := 53) 40 hin_10 (by rw [hM]; exact fl_X10_71) rfl (by decide) hd hlay hv k
set_option maxRecDepth 100000 in
theorem fl_X10_74 : Cond.fieldLink RX10 74 (TX10 41).1 (TX10 41).2.1 (TX10 41).2.2.1 ∈ WS := ws_t 1211 rfl rfl
theorem gf_X10_74 {M : MD} {R : Room} {mc ms : Nat} {Post : Option Value → XS → Prop} {PT : String → XS → Prop} {pc : Nat} {L : List (Nat × Value)} {st : List Value} {x : XS} {c9 : Nat} {t : List (Option Nat)} {v : Value} (hM : M.1.cls = RX10) (hd : decode M.2.1 pc = .ok (.getfield 74, 3)) (hlay : lay c9 = .inl (10, t)) (hv : fo x c9 41 t = some v) (k : PW M R mc ms Post PT (pc + 3) L (v :: st) x) : PW M R mc ms Post PT pc L (.ref c9 :: st) x := r_get (C9 := RX10) (T := TX10) (N := 53) 41 hin_10 (by rw [hM]; exact fl_X10_74) rfl (by decide) hd hlay hv k
set_option maxRecDepth 100000 in
theorem fl_X10_77 : Cond.fieldLink RX10 77 (TX10 43).1 (TX10 43).2.1 (TX10 43).2.2.1 ∈ WS := ws_t 1213 rfl rfl
theorem gf_X10_77 {M : MD} {R : Room} {mc ms : Nat} {Post : Option Value → XS → Prop} {PT : String → XS → Prop} {pc : Nat} {L : List (Nat × Value)} {st : List Value} {x : XS} {c9 : Nat} {t : List (Option Nat)} {v : Value} (hM : M.1.cls = RX10) (hd : decode M.2.1 pc = .ok (.getfield 77, 3)) (hlay : lay c9 = .inl (10, t)) (hv : fo x c9 43 t = some v) (k : PW M R mc ms Post PT (pc + 3) L (v :: st) x) : PW M R mc ms Post PT pc L (.ref c9 :: st) x := r_get (C9 := RX10) (T := TX10) (N := 53) 43 hin_10 (by rw [hM]; exact fl_X10_77) rfl (by decide) hd hlay hv k
set_option maxRecDepth 100000 in
theorem fl_X10_80 : Cond.fieldLink RX10 80 (TX10 44).1 (TX10 44).2.1 (TX10 44).2.2.1 ∈ WS := ws_t 1214 rfl rfl
theorem gf_X10_80 {M : MD} {R : Room} {mc ms : Nat} {Post : Option Value → XS → Prop} {PT : String → XS → Prop} {pc : Nat} {L : List (Nat × Value)} {st : List Value} {x : XS} {c9 : Nat} {t : List (Option Nat)} {v : Value} (hM : M.1.cls = RX10) (hd : decode M.2.1 pc = .ok (.getfield 80, 3)) (hlay : lay c9 = .inl (10, t)) (hv : fo x c9 44 t = some v) (k : PW M R mc ms Post PT (pc + 3) L (v :: st) x) : PW M R mc ms Post PT pc L (.ref c9 :: st) x := r_get (C9 := RX10) (T := TX10) (N := 53) 44 hin_10 (by rw [hM]; exact fl_X10_80) rfl (by decide) hd hlay hv k
set_option maxRecDepth 100000 in
theorem fl_X10_83 : Cond.fieldLink RX10 83 (TX10 46).1 (TX10 46).2.1 (TX10 46).2.2.1 ∈ WS := ws_t 1216 rfl rfl
theorem gf_X10_83 {M : MD} {R : Room} {mc ms : Nat} {Post : Option Value → XS → Prop} {PT : String → XS → Prop} {pc : Nat} {L : List (Nat × Value)} {st : List Value} {x : XS} {c9 : Nat} {t : List (Option Nat)} {v : Value} (hM : M.1.cls = RX10) (hd : decode M.2.1 pc = .ok (.getfield 83, 3)) (hlay : lay c9 = .inl (10, t)) (hv : fo x c9 46 t = some v) (k : PW M R mc ms Post PT (pc + 3) L (v :: st) x) : PW M R mc ms Post PT pc L (.ref c9 :: st) x := r_get (C9 := RX10) (T := TX10) (N := 53) 46 hin_10 (by rw [hM]; exact fl_X10_83) rfl (by decide) hd hlay hv k
set_option maxRecDepth 100000 in
theorem fl_X10_86 : Cond.fieldLink RX10 86 (TX10 48).1 (TX10 48).2.1 (TX10 48).2.2.1 ∈ WS := ws_t 1218 rfl rfl
theorem gf_X10_86 {M : MD} {R : Room} {mc ms : Nat} {Post : Option Value → XS → Prop} {PT : String → XS → Prop} {pc : Nat} {L : List (Nat × Value)} {st : List Value} {x : XS} {c9 : Nat} {t : List (Option Nat)} {v : Value} (hM : M.1.cls = RX10) (hd : decode M.2.1 pc = .ok (.getfield 86, 3)) (hlay : lay c9 = .inl (10, t)) (hv : fo x c9 48 t = some v) (k : PW M R mc ms Post PT (pc + 3) L (v :: st) x) : PW M R mc ms Post PT pc L (.ref c9 :: st) x := r_get (C9 := RX10) (T := TX10) (N := 53) 48 hin_10 (by rw [hM]; exact fl_X10_86) rfl (by decide) hd hlay hv k
set_option maxRecDepth 100000 in
theorem fl_X10_89 : Cond.fieldLink RX10 89 (TX10 51).1 (TX10 51).2.1 (TX10 51).2.2.1 ∈ WS := ws_t 1221 rfl rfl
theorem gf_X10_89 {M : MD} {R : Room} {mc ms : Nat} {Post : Option Value → XS → Prop} {PT : String → XS → Prop} {pc : Nat} {L : List (Nat × Value)} {st : List Value} {x : XS} {c9 : Nat} {t : List (Option Nat)} {v : Value} (hM : M.1.cls = RX10) (hd : decode M.2.1 pc = .ok (.getfield 89, 3)) (hlay : lay c9 = .inl (10, t)) (hv : fo x c9 51 t = some v) (k : PW M R mc ms Post PT (pc + 3) L (v :: st) x) : PW M R mc ms Post PT pc L (.ref c9 :: st) x := r_get (C9 := RX10) (T := TX10) (N := 53) 51 hin_10 (by rw [hM]; exact fl_X10_89) rfl (by decide) hd hlay hv k
set_option maxRecDepth 100000 in
theorem fl_X10_98 : Cond.fieldLink RX10 98 (TX10 2).1 (TX10 2).2.1 (TX10 2).2.2.1 ∈ WS := ws_t 1172 rfl rfl
theorem gf_X10_98 {M : MD} {R : Room} {mc ms : Nat} {Post : Option Value → XS → Prop} {PT : String → XS → Prop} {pc : Nat} {L : List (Nat × Value)} {st : List Value} {x : XS} {c9 : Nat} {t : List (Option Nat)} {v : Value} (hM : M.1.cls = RX10) (hd : decode M.2.1 pc = .ok (.getfield 98, 3)) (hlay : lay c9 = .inl (10, t)) (hv : fo x c9 2 t = some v) (k : PW M R mc ms Post PT (pc + 3) L (v :: st) x) : PW M R mc ms Post PT pc L (.ref c9 :: st) x := r_get (C9 := RX10) (T := TX10) (N := 53) 2 hin_10 (by rw [hM]; exact fl_X10_98) rfl (by decide) hd hlay hv k
theorem pf_X10_98 {M : MD} {R : Room} {mc ms : Nat} {Post : Option Value → XS → Prop} {PT : String → XS → Prop} {pc : Nat} {L : List (Nat × Value)} {st : List Value} {x : XS} {c9 : Nat} {t : List (Option Nat)} {v : Int32} (hM : M.1.cls = RX10) (hd : decode M.2.1 pc = .ok (.putfield 98, 3)) (hlay : lay c9 = .inl (10, t)) (hv : t[2]? = some none) (k : PW M R mc ms Post PT (pc + 3) L st (xu x c9 2 v)) : PW M R mc ms Post PT pc L (.int v :: .ref c9 :: st) x := r_put (C9 := RX10) (T := TX10) (N := 53) tyX10 2 hin_10 tyX10_ok nmX10 (by rw [hM]; exact fl_X10_98) rfl (by decide) rfl (by decide +kernel) hd hlay hv k
set_option maxRecDepth 100000 in
theorem fl_X10_101 : Cond.fieldLink RX10 101 (TX10 5).1 (TX10 5).2.1 (TX10 5).2.2.1 ∈ WS := ws_t 1175 rfl rfl
theorem gf_X10_101 {M : MD} {R : Room} {mc ms : Nat} {Post : Option Value → XS → Prop} {PT : String → XS → Prop} {pc : Nat} {L : List (Nat × Value)} {st : List Value} {x : XS} {c9 : Nat} {t : List (Option Nat)} {v : Value} (hM : M.1.cls = RX10) (hd : decode M.2.1 pc = .ok (.getfield 101, 3)) (hlay : lay c9 = .inl (10, t)) (hv : fo x c9 5 t = some v) (k : PW M R mc ms Post PT (pc + 3) L (v :: st) x) : PW M R mc ms Post PT pc L (.ref c9 :: st) x := r_get (C9 := RX10) (T := TX10) (N := 53) 5 hin_10 (by rw [hM]; exact fl_X10_101) rfl (by decide) hd hlay hv k
theorem pf_X10_101 {M : MD} {R : Room} {mc ms : Nat} {Post : Option Value → XS → Prop} {PT : String → XS → Prop} {pc : Nat} {L : List (Nat × Value)} {st : List Value} {x : XS} {c9 : Nat} {t : List (Option Nat)} {v : Int32} (hM : M.1.cls = RX10) (hd : decode M.2.1 pc = .ok (.putfield 101, 3)) (hlay : lay c9 = .inl (10, t)) (hv : t[5]? = some none) (k : PW M R mc ms Post PT (pc + 3) L st (xu x c9 5 v)) : PW M R mc ms Post PT pc L (.int v :: .ref c9 :: st) x := r_put (C9 := RX10) (T := TX10) (N := 53) tyX10 5 hin_10 tyX10_ok nmX10 (by rw [hM]; exact fl_X10_101) rfl (by decide) rfl (by decide +kernel) hd hlay hv k
set_option maxRecDepth 100000 in
theorem fl_X10_104 : Cond.fieldLink RX10 104 (TX10 6).1 (TX10 6).2.1 (TX10 6).2.2.1 ∈ WS := ws_t 1176 rfl rfl
theorem gf_X10_104 {M : MD} {R : Room} {mc ms : Nat} {Post : Option Value → XS → Prop} {PT : String → XS → Prop} {pc : Nat} {L : List (Nat × Value)} {st : List Value} {x : XS} {c9 : Nat} {t : List (Option Nat)} {v : Value} (hM : M.1.cls = RX10) (hd : decode M.2.1 pc = .ok (.getfield 104, 3)) (hlay : lay c9 = .inl (10, t)) (hv : fo x c9 6 t = some v) (k : PW M R mc ms Post PT (pc + 3) L (v :: st) x) : PW M R mc ms Post PT pc L (.ref c9 :: st) x := r_get (C9 := RX10) (T := TX10) (N := 53) 6 hin_10 (by rw [hM]; exact fl_X10_104) rfl (by decide) hd hlay hv k
theorem pf_X10_104 {M : MD} {R : Room} {mc ms : Nat} {Post : Option Value → XS → Prop} {PT : String → XS → Prop} {pc : Nat} {L : List (Nat × Value)} {st : List Value} {x : XS} {c9 : Nat} {t : List (Option Nat)} {v : Int32} (hM : M.1.cls = RX10) (hd : decode M.2.1 pc = .ok (.putfield 104, 3)) (hlay : lay c9 = .inl (10, t)) (hv : t[6]? = some none) (k : PW M R mc ms Post PT (pc + 3) L st (xu x c9 6 v)) : PW M R mc ms Post PT pc L (.int v :: .ref c9 :: st) x := r_put (C9 := RX10) (T := TX10) (N := 53) tyX10 6 hin_10 tyX10_ok nmX10 (by rw [hM]; exact fl_X10_104) rfl (by decide) rfl (by decide +kernel) hd hlay hv k
set_option maxRecDepth 100000 in
theorem fl_X10_107 : Cond.fieldLink RX10 107 (TX10 4).1 (TX10 4).2.1 (TX10 4).2.2.1 ∈ WS := ws_t 1174 rfl rfl
theorem gf_X10_107 {M : MD} {R : Room} {mc ms : Nat} {Post : Option Value → XS → Prop} {PT : String → XS → Prop} {pc : Nat} {L : List (Nat × Value)} {st : List Value} {x : XS} {c9 : Nat} {t : List (Option Nat)} {v : Value} (hM : M.1.cls = RX10) (hd : decode M.2.1 pc = .ok (.getfield 107, 3)) (hlay : lay c9 = .inl (10, t)) (hv : fo x c9 4 t = some v) (k : PW M R mc ms Post PT (pc + 3) L (v :: st) x) : PW M R mc ms Post PT pc L (.ref c9 :: st) x := r_get (C9 := RX10) (T := TX10) (N := 53) 4 hin_10 (by rw [hM]; exact fl_X10_107) rfl (by decide) hd hlay hv k
theorem pf_X10_107 {M : MD} {R : Room} {mc ms : Nat} {Post : Option Value → XS → Prop} {PT : String → XS → Prop} {pc : Nat} {L : List (Nat × Value)} {st : List Value} {x : XS} {c9 : Nat} {t : List (Option Nat)} {v : Int32} (hM : M.1.cls = RX10) (hd : decode M.2.1 pc = .ok (.putfield 107, 3)) (hlay : lay c9 = .inl (10, t)) (hv : t[4]? = some none) (k : PW M R mc ms Post PT (pc + 3) L st (xu x c9 4 v)) : PW M R mc ms Post PT pc L (.int v :: .ref c9 :: st) x := r_put (C9 := RX10) (T := TX10) (N := 53) tyX10 4 hin_10 tyX10_ok nmX10 (by rw [hM]; exact fl_X10_107) rfl (by decide) rfl (by decide +kernel) hd hlay hv k
set_option maxRecDepth 100000 in
theorem fl_X10_110 : Cond.fieldLink RX10 110 (TX10 3).1 (TX10 3).2.1 (TX10 3).2.2.1 ∈ WS := ws_t 1173 rfl rfl
theorem gf_X10_110 {M : MD} {R : Room} {mc ms : Nat} {Post : Option Value → XS → Prop} {PT : String → XS → Prop} {pc : Nat} {L : List (Nat × Value)} {st : List Value} {x : XS} {c9 : Nat} {t : List (Option Nat)} {v : Value} (hM : M.1.cls = RX10) (hd : decode M.2.1 pc = .ok (.getfield 110, 3)) (hlay : lay c9 = .inl (10, t)) (hv : fo x c9 3 t = some v) (k : PW M R mc ms Post PT (pc + 3) L (v :: st) x) : PW M R mc ms Post PT pc L (.ref c9 :: st) x := r_get (C9 := RX10) (T := TX10) (N := 53) 3 hin_10 (by rw [hM]; exact fl_X10_110) rfl (by decide) hd hlay hv k
theorem pf_X10_110 {M : MD} {R : Room} {mc ms : Nat} {Post : Option Value → XS → Prop} {PT : String → XS → Prop} {pc : Nat} {L : List (Nat × Value)} {st : List Value} {x : XS} {c9 : Nat} {t : List (Option Nat)} {v : Int32} (hM : M.1.cls = RX10) (hd : decode M.2.1 pc = .ok (.putfield 110, 3)) (hlay : lay c9 = .inl (10, t)) (hv : t[3]? = some none) (k : PW M R mc ms Post PT (pc + 3) L st (xu x c9 3 v)) : PW M R mc ms Post PT pc L (.int v :: .ref c9 :: st) x := r_put (C9 := RX10) (T := TX10) (N := 53) tyX10 3 hin_10 tyX10_ok nmX10 (by rw [hM]; exact fl_X10_110) rfl (by decide) rfl (by decide +kernel) hd hlay hv k
set_option maxRecDepth 100000 in
theorem fl_X10_141 : Cond.fieldLink RX10 141 (TX10 7).1 (TX10 7).2.1 (TX10 7).2.2.1 ∈ WS := ws_t 1177 rfl rfl
theorem gf_X10_141 {M : MD} {R : Room} {mc ms : Nat} {Post : Option Value → XS → Prop} {PT : String → XS → Prop} {pc : Nat} {L : List (Nat × Value)} {st : List Value} {x : XS} {c9 : Nat} {t : List (Option Nat)} {v : Value} (hM : M.1.cls = RX10) (hd : decode M.2.1 pc = .ok (.getfield 141, 3)) (hlay : lay c9 = .inl (10, t)) (hv : fo x c9 7 t = some v) (k : PW M R mc ms Post PT (pc + 3) L (v :: st) x) : PW M R mc ms Post PT pc L (.ref c9 :: st) x := r_get (C9 := RX10) (T := TX10) (N := 53) 7 hin_10 (by rw [hM]; exact fl_X10_141) rfl (by decide) hd hlay hv k
theorem pf_X10_141 {M : MD} {R : Room} {mc ms : Nat} {Post : Option Value → XS → Prop} {PT : String → XS → Prop} {pc : Nat} {L : List (Nat × Value)} {st : List Value} {x : XS} {c9 : Nat} {t : List (Option Nat)} {v : Int32} (hM : M.1.cls = RX10) (hd : decode M.2.1 pc = .ok (.putfield 141, 3)) (hlay : lay c9 = .inl (10, t)) (hv : t[7]? = some none) (k : PW M R mc ms Post PT (pc + 3) L st (xu x c9 7 v)) : PW M R mc ms Post PT pc L (.int v :: .ref c9 :: st) x := r_put (C9 := RX10) (T := TX10) (N := 53) tyX10 7 hin_10 tyX10_ok nmX10 (by rw [hM]; exact fl_X10_141) rfl (by decide) rfl (by decide +kernel) hd hlay hv k
set_option maxRecDepth 100000 in
theorem fl_X10_144 : Cond.fieldLink RX10 144 (TX10 14).1 (TX10 14).2.1 (TX10 14).2.2.1 ∈ WS := ws_t 1184 rfl rfl
theorem gf_X10_144 {M : MD} {R : Room} {mc ms : Nat} {Post : Option Value → XS → Prop} {PT : String → XS → Prop} {pc : Nat} {L : List (Nat × Value)} {st : List Value} {x : XS} {c9 : Nat} {t : List (Option Nat)} {v : Value} (hM : M.1.cls = RX10) (hd : decode M.2.1 pc = .ok (.getfield 144, 3)) (hlay : lay c9 = .inl (10, t)) (hv : fo x c9 14 t = some v) (k : PW M R mc ms Post PT (pc + 3) L (v :: st) x) : PW M R mc ms Post PT pc L (.ref c9 :: st) x := r_get (C9 := RX10) (T := TX10) (N := 53) 14 hin_10 (by rw [hM]; exact fl_X10_144) rfl (by decide) hd hlay hv k
theorem pf_X10_144 {M : MD} {R : Room} {mc ms : Nat} {Post : Option Value → XS → Prop} {PT : String → XS → Prop} {pc : Nat} {L : List (Nat × Value)} {st : List Value} {x : XS} {c9 : Nat} {t : List (Option Nat)} {v : Int32} (hM : M.1.cls = RX10) (hd : decode M.2.1 pc = .ok (.putfield 144, 3)) (hlay : lay c9 = .inl (10, t)) (hv : t[14]? = some none) (k : PW M R mc ms Post PT (pc + 3) L st (xu x c9 14 v)) : PW M R mc ms Post PT pc L (.int v :: .ref c9 :: st) x := r_put (C9 := RX10) (T := TX10) (N := 53) tyX10 14 hin_10 tyX10_ok nmX10 (by rw [hM]; exact fl_X10_144) rfl (by decide) rfl (by decide +kernel) hd hlay hv k
set_option maxRecDepth 100000 in
theorem fl_X10_147 : Cond.fieldLink RX10 147 (TX10 15).1 (TX10 15).2.1 (TX10 15).2.2.1 ∈ WS := ws_t 1185 rfl rfl
theorem gf_X10_147 {M : MD} {R : Room} {mc ms : Nat} {Post : Option Value → XS → Prop} {PT : String → XS → Prop} {pc : Nat} {L : List (Nat × Value)} {st : List Value} {x : XS} {c9 : Nat} {t : List (Option Nat)} {v : Value} (hM : M.1.cls = RX10) (hd : decode M.2.1 pc = .ok (.getfield 147, 3)) (hlay : lay c9 = .inl (10, t)) (hv : fo x c9 15 t = some v) (k : PW M R mc ms Post PT (pc + 3) L (v :: st) x) : PW M R mc ms Post PT pc L (.ref c9 :: st) x := r_get (C9 := RX10) (T := TX10) (N := 53) 15 hin_10 (by rw [hM]; exact fl_X10_147) rfl (by decide) hd hlay hv k
theorem pf_X10_147 {M : MD} {R : Room} {mc ms : Nat} {Post : Option Value → XS → Prop} {PT : String → XS → Prop} {pc : Nat} {L : List (Nat × Value)} {st : List Value} {x : XS} {c9 : Nat} {t : List (Option Nat)} {v : Int32} (hM : M.1.cls = RX10) (hd : decode M.2.1 pc = .ok (.putfield 147, 3)) (hlay : lay c9 = .inl (10, t)) (hv : t[15]? = some none) (k : PW M R mc ms Post PT (pc + 3) L st (xu x c9 15 v)) : PW M R mc ms Post PT pc L (.int v :: .ref c9 :: st) x := r_put (C9 := RX10) (T := TX10) (N := 53) tyX10 15 hin_10 tyX10_ok nmX10 (by rw [hM]; exact fl_X10_147) rfl (by decide) rfl (by decide +kernel) hd hlay hv k
set_option maxRecDepth 100000 in
theorem fl_X10_150 : Cond.fieldLink RX10 150 (TX10 16).1 (TX10 16).2.1 (TX10 16).2.2.1 ∈ WS := ws_t 1186 rfl rfl
theorem gf_X10_150 {M : MD} {R : Room} {mc ms : Nat} {Post : Option Value → XS → Prop} {PT : String → XS → Prop} {pc : Nat} {L : List (Nat × Value)} {st : List Value} {x : XS} {c9 : Nat} {t : List (Option Nat)} {v : Value} (hM : M.1.cls = RX10) (hd : decode M.2.1 pc = .ok (.getfield 150, 3)) (hlay : lay c9 = .inl (10, t)) (hv : fo x c9 16 t = some v) (k : PW M R mc ms Post PT (pc + 3) L (v :: st) x) : PW M R mc ms Post PT pc L (.ref c9 :: st) x := r_get (C9 := RX10) (T := TX10) (N := 53) 16 hin_10 (by rw [hM]; exact fl_X10_150) rfl (by decide) hd hlay hv k
theorem pf_X10_150 {M : MD} {R : Room} {mc ms : Nat} {Post : Option Value → XS → Prop} {PT : String → XS → Prop} {pc : Nat} {L : List (Nat × Value)} {st : List Value} {x : XS} {c9 : Nat} {t : List (Option Nat)} {v : Int32} (hM : M.1.cls = RX10) (hd : decode M.2.1 pc = .ok (.putfield 150, 3)) (hlay : lay c9 = .inl (10, t)) (hv : t[16]? = some none) (k : PW M R mc ms Post PT (pc + 3) L st (xu x c9 16 v)) : PW M R mc ms Post PT pc L (.int v :: .ref c9 :: st) x := r_put (C9 := RX10) (T := TX10) (N := 53) tyX10 16 hin_10 tyX10_ok nmX10 (by rw [hM]; exact fl_X10_150) rfl (by decide) rfl (by decide +kernel) hd hlay hv k
set_option maxRecDepth 100000 in
theorem fl_X10_153 : Cond.fieldLink RX10 153 (TX10 17).1 (TX10 17).2.1 (TX10 17).2.2.1 ∈ WS := ws_t 1187 rfl rfl
theorem gf_X10_153 {M : MD} {R : Room} {mc ms : Nat} {Post : Option Value → XS → Prop} {PT : String → XS → Prop} {pc : Nat} {L : List (Nat × Value)} {st : List Value} {x : XS} {c9 : Nat} {t : List (Option Nat)} {v : Value} (hM : M.1.cls = RX10) (hd : decode M.2.1 pc = .ok (.getfield 153, 3)) (hlay : lay c9 = .inl (10, t)) (hv : fo x c9 17 t = some v) (k : PW M R mc ms Post PT (pc + 3) L (v :: st) x) : PW M R mc ms Post PT pc L (.ref c9 :: st) x := r_get (C9 := RX10) (T := TX10) (N := 53) 17 hin_10 (by rw [hM]; exact fl_X10_153) rfl (by decide) hd hlay hv k
theorem pf_X10_153 {M : MD} {R : Room} {mc ms : Nat} {Post : Option Value → XS → Prop} {PT : String → XS → Prop} {pc : Nat} {L : List (Nat × Value)} {st : List Value} {x : XS} {c9 : Nat} {t : List (Option Nat)} {v : Int32} (hM : M.1.cls = RX10) (hd : decode M.2.1 pc = .ok (.putfield 153, 3)) (hlay : lay c9 = .inl (10, t)) (hv : t[17]? = some none) (k : PW M R mc ms Post PT (pc + 3) L st (xu x c9 17 v)) : PW M R mc ms Post PT pc L (.int v :: .ref c9 :: st) x := r_put (C9 := RX10) (T := TX10) (N := 53) tyX10 17 hin_10 tyX10_ok nmX10 (by rw [hM]; exact fl_X10_153) rfl (by decide) rfl (by decide +kernel) hd hlay hv k
set_option maxRecDepth 100000 in
theorem fl_X10_156 : Cond.fieldLink RX10 156 (TX10 18).1 (TX10 18).2.1 (TX10 18).2.2.1 ∈ WS := ws_t 1188 rfl rfl
theorem gf_X10_156 {M : MD} {R : Room} {mc ms : Nat} {Post : Option Value → XS → Prop} {PT : String → XS → Prop} {pc : Nat} {L : List (Nat × Value)} {st : List Value} {x : XS} {c9 : Nat} {t : List (Option Nat)} {v : Value} (hM : M.1.cls = RX10) (hd : decode M.2.1 pc = .ok (.getfield 156, 3)) (hlay : lay c9 = .inl (10, t)) (hv : fo x c9 18 t = some v) (k : PW M R mc ms Post PT (pc + 3) L (v :: st) x) : PW M R mc ms Post PT pc L (.ref c9 :: st) x := r_get (C9 := RX10) (T := TX10) (N := 53) 18 hin_10 (by rw [hM]; exact fl_X10_156) rfl (by decide) hd hlay hv k
theorem pf_X10_156 {M : MD} {R : Room} {mc ms : Nat} {Post : Option Value → XS → Prop} {PT : String → XS → Prop} {pc : Nat} {L : List (Nat × Value)} {st : List Value} {x : XS} {c9 : Nat} {t : List (Option Nat)} {v : Int32} (hM : M.1.cls = RX10) (hd : decode M.2.1 pc = .ok (.putfield 156, 3)) (hlay : lay c9 = .inl (10, t)) (hv : t[18]? = some none) (k : PW M R mc ms Post PT (pc + 3) L st (xu x c9 18 v)) : PW M R mc ms Post PT pc L (.int v :: .ref c9 :: st) x := r_put (C9 := RX10) (T := TX10) (N := 53) tyX10 18 hin_10 tyX10_ok nmX10 (by rw [hM]; exact fl_X10_156) rfl (by decide) rfl (by decide +kernel) hd hlay hv k
set_option maxRecDepth 100000 in
theorem fl_X10_159 : Cond.fieldLink RX10 159 (TX10 19).1 (TX10 19).2.1 (TX10 19).2.2.1 ∈ WS := ws_t 1189 rfl rfl
theorem gf_X10_159 {M : MD} {R : Room} {mc ms : Nat} {Post : Option Value → XS → Prop} {PT : String → XS → Prop} {pc : Nat} {L : List (Nat × Value)} {st : List Value} {x : XS} {c9 : Nat} {t : List (Option Nat)} {v : Value} (hM : M.1.cls = RX10) (hd : decode M.2.1 pc = .ok (.getfield 159, 3)) (hlay : lay c9 = .inl (10, t)) (hv : fo x c9 19 t = some v) (k : PW M R mc ms Post PT (pc + 3) L (v :: st) x) : PW M R mc ms Post PT pc L (.ref c9 :: st) x := r_get (C9 := RX10) (T := TX10) (N := 53) 19 hin_10 (by rw [hM]; exact fl_X10_159) rfl (by decide) hd hlay hv k
theorem pf_X10_159 {M : MD} {R : Room} {mc ms : Nat} {Post : Option Value → XS → Prop} {PT : String → XS → Prop} {pc : Nat} {L : List (Nat × Value)} {st : List Value} {x : XS} {c9 : Nat} {t : List (Option Nat)} {v : Int32} (hM : M.1.cls = RX10) (hd : decode M.2.1 pc = .ok (.putfield 159, 3)) (hlay : lay c9 = .inl (10, t)) (hv : t[19]? = some none) (k : PW M R mc ms Post PT (pc + 3) L st (xu x c9 19 v)) : PW M R mc ms Post PT pc L (.int v :: .ref c9 :: st) x := r_put (C9 := RX10) (T := TX10) (N := 53) tyX10 19 hin_10 tyX10_ok nmX10 (by rw [hM]; exact fl_X10_159) rfl (by decide) rfl (by decide +kernel) hd hlay hv k
set_option maxRecDepth 100000 in
theorem fl_X10_162 : Cond.fieldLink RX10 162 (TX10 20).1 (TX10 20).2.1 (TX10 20).2.2.1 ∈ WS := ws_t 1190 rfl rfl
theorem gf_X10_162 {M : MD} {R : Room} {mc ms : Nat} {Post : Option Value → XS → Prop} {PT : String → XS → Prop} {pc : Nat} {L : List (Nat × Value)} {st : List Value} {x : XS} {c9 : Nat} {t : List (Option Nat)} {v : Value} (hM : M.1.cls = RX10) (hd : decode M.2.1 pc = .ok (.getfield 162, 3)) (hlay : lay c9 = .inl (10, t)) (hv : fo x c9 20 t = some v) (k : PW M R mc ms Post PT (pc + 3) L (v :: st) x) : PW M R mc ms Post PT pc L (.ref c9 :: st) x := r_get (C9 := RX10) (T := TX10) (N := 53) 20 hin_10 (by rw [hM]; exact fl_X10_162) rfl (by decide) hd hlay hv k
theorem pf_X10_162 {M : MD} {R : Room} {mc ms : Nat} {Post : Option Value → XS → Prop} {PT : String → XS → Prop} {pc : Nat} {L : List (Nat × Value)} {st : List Value} {x : XS} {c9 : Nat} {t : List (Option Nat)} {v : Int32} (hM : M.1.cls = RX10) (hd : decode M.2.1 pc = .ok (.putfield 162, 3)) (hlay : lay c9 = .inl (10, t)) (hv : t[20]? = some none) (k : PW M R mc ms Post PT (pc + 3) L st (xu x c9 20 v)) : PW M R mc ms Post PT pc L (.int v :: .ref c9 :: st) x := r_put (C9 := RX10) (T := TX10) (N := 53) tyX10 20 hin_10 tyX10_ok nmX10 (by rw [hM]; exact fl_X10_162) rfl (by decide) rfl (by decide +kernel) hd hlay hv k
set_option maxRecDepth 100000 in
theorem fl_X10_169 : Cond.fieldLink RX10 169 (TX10 45).1 (TX10 45).2.1 (TX10 45).2.2.1 ∈ WS := ws_t 1215 rfl rfl
theorem gf_X10_169 {M : MD} {R : Room} {mc ms : Nat} {Post : Option Value → XS → Prop} {PT : String → XS → Prop} {pc : Nat} {L : List (Nat × Value)} {st : List Value} {x : XS} {c9 : Nat} {t : List (Option Nat)} {v : Value} (hM : M.1.cls = RX10) (hd : decode M.2.1 pc = .ok (.getfield 169, 3)) (hlay : lay c9 = .inl (10, t)) (hv : fo x c9 45 t = some v) (k : PW M R mc ms Post PT (pc + 3) L (v :: st) x) : PW M R mc ms Post PT pc L (.ref c9 :: st) x := r_get (C9 := RX10) (T := TX10) (N := 53) 45 hin_10 (by rw [hM]; exact fl_X10_169) rfl (by decide) hd hlay hv k
theorem pf_X10_169 {M : MD} {R : Room} {mc ms : Nat} {Post : Option Value → XS → Prop} {PT : String → XS → Prop} {pc : Nat} {L : List (Nat × Value)} {st : List Value} {x : XS} {c9 : Nat} {t : List (Option Nat)} {v : Int32} (hM : M.1.cls = RX10) (hd : decode M.2.1 pc = .ok (.putfield 169, 3)) (hlay : lay c9 = .inl (10, t)) (hv : t[45]? = some none) (k : PW M R mc ms Post PT (pc + 3) L st (xu x c9 45 v)) : PW M R mc ms Post PT pc L (.int v :: .ref c9 :: st) x := r_put (C9 := RX10) (T := TX10) (N := 53) tyX10 45 hin_10 tyX10_ok nmX10 (by rw [hM]; exact fl_X10_169) rfl (by decide) rfl (by decide +kernel) hd hlay hv k
set_option maxRecDepth 100000 in
theorem fl_X10_172 : Cond.fieldLink RX10 172 (TX10 32).1 (TX10 32).2.1 (TX10 32).2.2.1 ∈ WS := ws_t 1202 rfl rfl
theorem gf_X10_172 {M : MD} {R : Room} {mc ms : Nat} {Post : Option Value → XS → Prop} {PT : String → XS → Prop} {pc : Nat} {L : List (Nat × Value)} {st : List Value} {x : XS} {c9 : Nat} {t : List (Option Nat)} {v : Value} (hM : M.1.cls = RX10) (hd : decode M.2.1 pc = .ok (.getfield 172, 3)) (hlay : lay c9 = .inl (10, t)) (hv : fo x c9 32 t = some v) (k : PW M R mc ms Post PT (pc + 3) L (v :: st) x) : PW M R mc ms Post PT pc L (.ref c9 :: st) x := r_get (C9 := RX10) (T := TX10) (N := 53) 32 hin_10 (by rw [hM]; exact fl_X10_172) rfl (by decide) hd hlay hv k
theorem pf_X10_172 {M : MD} {R : Room} {mc ms : Nat} {Post : Option Value → XS → Prop} {PT : String → XS → Prop} {pc : Nat} {L : List (Nat × Value)} {st : List Value} {x : XS} {c9 : Nat} {t : List (Option Nat)} {v : Int32} (hM : M.1.cls = RX10) (hd : decode M.2.1 pc = .ok (.putfield 172, 3)) (hlay : lay c9 = .inl (10, t)) (hv : t[32]? = some none) (k : PW M R mc ms Post PT (pc + 3) L st (xu x c9 32 v)) : PW M R mc ms Post PT pc L (.int v :: .ref c9 :: st) x := r_put (C9 := RX10) (T := TX10) (N := 53) tyX10 32 hin_10 tyX10_ok nmX10 (by rw [hM]; exact fl_X10_172) rfl (by decide) rfl (by decide +kernel) hd hlay hv k
set_option maxRecDepth 100000 in
theorem fl_X10_175 : Cond.fieldLink RX10 175 (TX10 52).1 (TX10 52).2.1 (TX10 52).2.2.1 ∈ WS := ws_t 1222 rfl rfl
theorem gf_X10_175 {M : MD} {R : Room} {mc ms : Nat} {Post : Option Value → XS → Prop} {PT : String → XS → Prop} {pc : Nat} {L : List (Nat × Value)} {st : List Value} {x : XS} {c9 : Nat} {t : List (Option Nat)} {v : Value} (hM : M.1.cls = RX10) (hd : decode M.2.1 pc = .ok (.getfield 175, 3)) (hlay : lay c9 = .inl (10, t)) (hv : fo x c9 52 t = some v) (k : PW M R mc ms Post PT (pc + 3) L (v :: st) x) : PW M R mc ms Post PT pc L (.ref c9 :: st) x := r_get (C9 := RX10) (T := TX10) (N := 53) 52 hin_10 (by rw [hM]; exact fl_X10_175) rfl (by decide) hd hlay hv k
theorem pf_X10_175 {M : MD} {R : Room} {mc ms : Nat} {Post : Option Value → XS → Prop} {PT : String → XS → Prop} {pc : Nat} {L : List (Nat × Value)} {st : List Value} {x : XS} {c9 : Nat} {t : List (Option Nat)} {v : Int32} (hM : M.1.cls = RX10) (hd : decode M.2.1 pc = .ok (.putfield 175, 3)) (hlay : lay c9 = .inl (10, t)) (hv : t[52]? = some none) (k : PW M R mc ms Post PT (pc + 3) L st (xu x c9 52 v)) : PW M R mc ms Post PT pc L (.int v :: .ref c9 :: st) x := r_put (C9 := RX10) (T := TX10) (N := 53) tyX10 52 hin_10 tyX10_ok nmX10 (by rw [hM]; exact fl_X10_175) rfl (by decide) rfl (by decide +kernel) hd hlay hv k
set_option maxRecDepth 100000 in
theorem fl_X10_178 : Cond.fieldLink RX10 178 (TX10 33).1 (TX10 33).2.1 (TX10 33).2.2.1 ∈ WS := ws_t 1203 rfl rfl
theorem gf_X10_178 {M : MD} {R : Room} {mc ms : Nat} {Post : Option Value → XS → Prop} {PT : String → XS → Prop} {pc : Nat} {L : List (Nat × Value)} {st : List Value} {x : XS} {c9 : Nat} {t : List (Option Nat)} {v : Value} (hM : M.1.cls = RX10) (hd : decode M.2.1 pc = .ok (.getfield 178, 3)) (hlay : lay c9 = .inl (10, t)) (hv : fo x c9 33 t = some v) (k : PW M R mc ms Post PT (pc + 3) L (v :: st) x) : PW M R mc ms Post PT pc L (.ref c9 :: st) x := r_get (C9 := RX10) (T := TX10) (N := 53) 33 hin_10 (by rw [hM]; exact fl_X10_178) rfl (by decide) hd hlay hv k
theorem pf_X10_178 {M : MD} {R : Room} {mc ms : Nat} {Post : Option Value → XS → Prop} {PT : String → XS → Prop} {pc : Nat} {L : List (Nat × Value)} {st : List Value} {x : XS} {c9 : Nat} {t : List (Option Nat)} {v : Int32} (hM : M.1.cls = RX10) (hd : decode M.2.1 pc = .ok (.putfield 178, 3)) (hlay : lay c9 = .inl (10, t)) (hv : t[33]? = some none) (k : PW M R mc ms Post PT (pc + 3) L st (xu x c9 33 v)) : PW M R mc ms Post PT pc L (.int v :: .ref c9 :: st) x := r_put (C9 := RX10) (T := TX10) (N := 53) tyX10 33 hin_10 tyX10_ok nmX10 (by rw [hM]; exact fl_X10_178) rfl (by decide) rfl (by decide +kernel) hd hlay hv k
set_option maxRecDepth 100000 in
theorem fl_X10_241 : Cond.fieldLink RX10 241 (TX10 27).1 (TX10 27).2.1 (TX10 27).2.2.1 ∈ WS := ws_t 1197 rfl rfl
theorem gf_X10_241 {M : MD} {R : Room} {mc ms : Nat} {Post : Option Value → XS → Prop} {PT : String → XS → Prop} {pc : Nat} {L : List (Nat × Value)} {st : List Value} {x : XS} {c9 : Nat} {t : List (Option Nat)} {v : Value} (hM : M.1.cls = RX10) (hd : decode M.2.1 pc = .ok (.getfield 241, 3)) (hlay : lay c9 = .inl (10, t)) (hv : fo x c9 27 t = some v) (k : PW M R mc ms Post PT (pc + 3) L (v :: st) x) : PW M R mc ms Post PT pc L (.ref c9 :: st) x := r_get (C9 := RX10) (T := TX10) (N := 53) 27 hin_10 (by rw [hM]; exact fl_X10_241) rfl (by decide) hd hlay hv k
theorem pf_X10_241 {M : MD} {R : Room} {mc ms : Nat} {Post : Option Value → XS → Prop} {PT : String → XS → Prop} {pc : Nat} {L : List (Nat × Value)} {st : List Value} {x : XS} {c9 : Nat} {t : List (Option Nat)} {v : Int32} (hM : M.1.cls = RX10) (hd : decode M.2.1 pc = .ok (.putfield 241, 3)) (hlay : lay c9 = .inl (10, t)) (hv : t[27]? = some none) (k : PW M R mc ms Post PT (pc + 3) L st (xu x c9 27 v)) : PW M R mc ms Post PT pc L (.int v :: .ref c9 :: st) x := r_put (C9 := RX10) (T := TX10) (N := 53) tyX10 27 hin_10 tyX10_ok nmX10 (by rw [hM]; exact fl_X10_241) rfl (by decide) rfl (by decide +kernel) hd hlay hv k
set_option maxRecDepth 100000 in
theorem fl_X10_293 : Cond.fieldLink RX10 293 (TX10 31).1 (TX10 31).2.1 (TX10 31).2.2.1 ∈ WS := ws_t 1201 rfl rfl
theorem gf_X10_293 {M : MD} {R : Room} {mc ms : Nat} {Post : Option Value → XS → Prop} {PT : String → XS → Prop} {pc : Nat} {L : List (Nat × Value)} {st : List Value} {x : XS} {c9 : Nat} {t : List (Option Nat)} {v : Value} (hM : M.1.cls = RX10) (hd : decode M.2.1 pc = .ok (.getfield 293, 3)) (hlay : lay c9 = .inl (10, t)) (hv : fo x c9 31 t = some v) (k : PW M R mc ms Post PT (pc + 3) L (v :: st) x) : PW M R mc ms Post PT pc L (.ref c9 :: st) x := r_get (C9 := RX10) (T := TX10) (N := 53) 31 hin_10 (by rw [hM]; exact fl_X10_293) rfl (by decide) hd hlay hv k
theorem pf_X10_293 {M : MD} {R : Room} {mc ms : Nat} {Post : Option Value → XS → Prop} {PT : String → XS → Prop} {pc : Nat} {L : List (Nat × Value)} {st : List Value} {x : XS} {c9 : Nat} {t : List (Option Nat)} {v : Int32} (hM : M.1.cls = RX10) (hd : decode M.2.1 pc = .ok (.putfield 293, 3)) (hlay : lay c9 = .inl (10, t)) (hv : t[31]? = some none) (k : PW M R mc ms Post PT (pc + 3) L st (xu x c9 31 v)) : PW M R mc ms Post PT pc L (.int v :: .ref c9 :: st) x := r_put (C9 := RX10) (T := TX10) (N := 53) tyX10 31 hin_10 tyX10_ok nmX10 (by rw [hM]; exact fl_X10_293) rfl (by decide) rfl (by decide +kernel) hd hlay hv k
set_option maxRecDepth 100000 in
theorem fl_X10_319 : Cond.fieldLink RX10 319 (TX10 34).1 (TX10 34).2.1 (TX10 34).2.2.1 ∈ WS := ws_t 1204 rfl rfl
theorem gf_X10_319 {M : MD} {R : Room} {mc ms : Nat} {Post : Option Value → XS → Prop} {PT : String → XS → Prop} {pc : Nat} {L : List (Nat × Value)} {st : List Value} {x : XS} {c9 : Nat} {t : List (Option Nat)} {v : Value} (hM : M.1.cls = RX10) (hd : decode M.2.1 pc = .ok (.getfield 319, 3)) (hlay : lay c9 = .inl (10, t)) (hv : fo x c9 34 t = some v) (k : PW M R mc ms Post PT (pc + 3) L (v :: st) x) : PW M R mc ms Post PT pc L (.ref c9 :: st) x := r_get (C9 := RX10) (T := TX10) (N := 53) 34 hin_10 (by rw [hM]; exact fl_X10_319) rfl (by decide) hd hlay hv k
theorem pf_X10_319 {M : MD} {R : Room} {mc ms : Nat} {Post : Option Value → XS → Prop} {PT : String → XS → Prop} {pc : Nat} {L : List (Nat × Value)} {st : List Value} {x : XS} {c9 : Nat} {t : List (Option Nat)} {v : Int32} (hM : M.1.cls = RX10) (hd : decode M.2.1 pc = .ok (.putfield 319, 3)) (hlay : lay c9 = .inl (10, t)) (hv : t[34]? = some none) (k : PW M R mc ms Post PT (pc + 3) L st (xu x c9 34 v)) : PW M R mc ms Post PT pc L (.int v :: .ref c9 :: st) x := r_put (C9 := RX10) (T := TX10) (N := 53) tyX10 34 hin_10 tyX10_ok nmX10 (by rw [hM]; exact fl_X10_319) rfl (by decide) rfl (by decide +kernel) hd hlay hv k
set_option maxRecDepth 100000 in
theorem fl_X10_322 : Cond.fieldLink RX10 322 (TX10 35).1 (TX10 35).2.1 (TX10 35).2.2.1 ∈ WS := ws_t 1205 rfl rfl
theorem gf_X10_322 {M : MD} {R : Room} {mc ms : Nat} {Post : Option Value → XS → Prop} {PT : String → XS → Prop} {pc : Nat} {L : List (Nat × Value)} {st : List Value} {x : XS} {c9 : Nat} {t : List (Option Nat)} {v : Value} (hM : M.1.cls = RX10) (hd : decode M.2.1 pc = .ok (.getfield 322, 3)) (hlay : lay c9 = .inl (10, t)) (hv : fo x c9 35 t = some v) (k : PW M R mc ms Post PT (pc + 3) L (v :: st) x) : PW M R mc ms Post PT pc L (.ref c9 :: st) x := r_get (C9 := RX10) (T := TX10) (N := 53) 35 hin_10 (by rw [hM]; exact fl_X10_322) rfl (by decide) hd hlay hv k
theorem pf_X10_322 {M : MD} {R : Room} {mc ms : Nat} {Post : Option Value → XS → Prop} {PT : String → XS → Prop} {pc : Nat} {L : List (Nat × Value)} {st : List Value} {x : XS} {c9 : Nat} {t : List (Option Nat)} {v : Int32} (hM : M.1.cls = RX10) (hd : decode M.2.1 pc = .ok (.putfield 322, 3)) (hlay : lay c9 = .inl (10, t)) (hv : t[35]? = some none) (k : PW M R mc ms Post PT (pc + 3) L st (xu x c9 35 v)) : PW M R mc ms Post PT pc L (.int v :: .ref c9 :: st) x := r_put (C9 := RX10) (T := TX10) (N := 53) tyX10 35 hin_10 tyX10_ok nmX10 (by rw [hM]; exact fl_X10_322) rfl (by decide) rfl (by decide +kernel) hd hlay hv k
set_option maxRecDepth 100000 in
theorem fl_X10_325 : Cond.fieldLink RX10 325 (TX10 36).1 (TX10 36).2.1 (TX10 36).2.2.1 ∈ WS := ws_t 1206 rfl rfl
theorem gf_X10_325 {M : MD} {R : Room} {mc ms : Nat} {Post : Option Value → XS → Prop} {PT : String → XS → Prop} {pc : Nat} {L : List (Nat × Value)} {st : List Value} {x : XS} {c9 : Nat} {t : List (Option Nat)} {v : Value} (hM : M.1.cls = RX10) (hd : decode M.2.1 pc = .ok (.getfield 325, 3)) (hlay : lay c9 = .inl (10, t)) (hv : fo x c9 36 t = some v) (k : PW M R mc ms Post PT (pc + 3) L (v :: st) x) : PW M R mc ms Post PT pc L (.ref c9 :: st) x := r_get (C9 := RX10) (T := TX10) (N := 53) 36 hin_10 (by rw [hM]; exact fl_X10_325) rfl (by decide) hd hlay hv k
theorem pf_X10_325 {M : MD} {R : Room} {mc ms : Nat} {Post : Option Value → XS → Prop} {PT : String → XS → Prop} {pc : Nat} {L : List (Nat × Value)} {st : List Value} {x : XS} {c9 : Nat} {t : List (Option Nat)} {v : Int32} (hM : M.1.cls = RX10) (hd : decode M.2.1 pc = .ok (.putfield 325, 3)) (hlay : lay c9 = .inl (10, t)) (hv : t[36]? = some none) (k : PW M R mc ms Post PT (pc + 3) L st (xu x c9 36 v)) : PW M R mc ms Post PT pc L (.int v :: .ref c9 :: st) x := r_put (C9 := RX10) (T := TX10) (N := 53) tyX10 36 hin_10 tyX10_ok nmX10 (by rw [hM]; exact fl_X10_325) rfl (by decide) rfl (by decide +kernel) hd hlay hv k
set_option maxRecDepth 100000 in
theorem fl_X10_334 : Cond.fieldLink RX10 334 (TX10 42).1 (TX10 42).2.1 (TX10 42).2.2.1 ∈ WS := ws_t 1212 rfl rfl
theorem gf_X10_334 {M : MD} {R : Room} {mc ms : Nat} {Post : Option Value → XS → Prop} {PT : String → XS → Prop} {pc : Nat} {L : List (Nat × Value)} {st : List Value} {x : XS} {c9 : Nat} {t : List (Option Nat)} {v : Value} (hM : M.1.cls = RX10) (hd : decode M.2.1 pc = .ok (.getfield 334, 3)) (hlay : lay c9 = .inl (10, t)) (hv : fo x c9 42 t = some v) (k : PW M R mc ms Post PT (pc + 3) L (v :: st) x) : PW M R mc ms Post PT pc L (.ref c9 :: st) x := r_get (C9 := RX10) (T := TX10) (N := 53) 42 hin_10 (by rw [hM]; exact fl_X10_334) rfl (by decide) hd hlay hv k
theorem pf_X10_334 {M : MD} {R : Room} {mc ms : Nat} {Post : Option Value → XS → Prop} {PT : String → XS → Prop} {pc : Nat} {L : List (Nat × Value)} {st : List Value} {x : XS} {c9 : Nat} {t : List (Option Nat)} {v : Int32} (hM : M.1.cls = RX10) (hd : decode M.2.1 pc = .ok (.putfield 334, 3)) (hlay : lay c9 = .inl (10, t)) (hv : t[42]? = some none) (k : PW M R mc ms Post PT (pc + 3) L st (xu x c9 42 v)) : PW M R mc ms Post PT pc L (.int v :: .ref c9 :: st) x := r_put (C9 := RX10) (T := TX10) (N := 53) tyX10 42 hin_10 tyX10_ok nmX10 (by rw [hM]; exact fl_X10_334) rfl (by decide) rfl (by decide +kernel) hd hlay hv k
set_option maxRecDepth 100000 in
theorem fl_X10_411 : Cond.fieldLink RX10 411 (TX10 47).1 (TX10 47).2.1 (TX10 47).2.2.1 ∈ WS := ws_t 1217 rfl rfl
theorem gf_X10_411 {M : MD} {R : Room} {mc ms : Nat} {Post : Option Value → XS → Prop} {PT : String → XS → Prop} {pc : Nat} {L : List (Nat × Value)} {st : List Value} {x : XS} {c9 : Nat} {t : List (Option Nat)} {v : Value} (hM : M.1.cls = RX10) (hd : decode M.2.1 pc = .ok (.getfield 411, 3)) (hlay : lay c9 = .inl (10, t)) (hv : fo x c9 47 t = some v) (k : PW M R mc ms Post PT (pc + 3) L (v :: st) x) : PW M R mc ms Post PT pc L (.ref c9 :: st) x := r_get (C9 := RX10) (T := TX10) (N := 53) 47 hin_10 (by rw [hM]; exact fl_X10_411) rfl (by decide) hd hlay hv k
theorem pf_X10_411 {M : MD} {R : Room} {mc ms : Nat} {Post : Option Value → XS → Prop} {PT : String → XS → Prop} {pc : Nat} {L : List (Nat × Value)} {st : List Value} {x : XS} {c9 : Nat} {t : List (Option Nat)} {v : Int32} (hM : M.1.cls = RX10) (hd : decode M.2.1 pc = .ok (.putfield 411, 3)) (hlay : lay c9 = .inl (10, t)) (hv : t[47]? = some none) (k : PW M R mc ms Post PT (pc + 3) L st (xu x c9 47 v)) : PW M R mc ms Post PT pc L (.int v :: .ref c9 :: st) x := r_put (C9 := RX10) (T := TX10) (N := 53) tyX10 47 hin_10 tyX10_ok nmX10 (by rw [hM]; exact fl_X10_411) rfl (by decide) rfl (by decide +kernel) hd hlay hv k
set_option maxRecDepth 100000 in
theorem fl_X10_445 : Cond.fieldLink RX10 445 (TX10 49).1 (TX10 49).2.1 (TX10 49).2.2.1 ∈ WS := ws_t 1219 rfl rfl
theorem gf_X10_445 {M : MD} {R : Room} {mc ms : Nat} {Post : Option Value → XS → Prop} {PT : String → XS → Prop} {pc : Nat} {L : List (Nat × Value)} {st : List Value} {x : XS} {c9 : Nat} {t : List (Option Nat)} {v : Value} (hM : M.1.cls = RX10) (hd : decode M.2.1 pc = .ok (.getfield 445, 3)) (hlay : lay c9 = .inl (10, t)) (hv : fo x c9 49 t = some v) (k : PW M R mc ms Post PT (pc + 3) L (v :: st) x) : PW M R mc ms Post PT pc L (.ref c9 :: st) x := r_get (C9 := RX10) (T := TX10) (N := 53) 49 hin_10 (by rw [hM]; exact fl_X10_445) rfl (by decide) hd hlay hv k
theorem pf_X10_445 {M : MD} {R : Room} {mc ms : Nat} {Post : Option Value → XS → Prop} {PT : String → XS → Prop} {pc : Nat} {L : List (Nat × Value)} {st : List Value} {x : XS} {c9 : Nat} {t : List (Option Nat)} {v : Int32} (hM : M.1.cls = RX10) (hd : decode M.2.1 pc = .ok (.putfield 445, 3)) (hlay : lay c9 = .inl (10, t)) (hv : t[49]? = some none) (k : PW M R mc ms Post PT (pc + 3) L st (xu x c9 49 v)) : PW M R mc ms Post PT pc L (.int v :: .ref c9 :: st) x := r_put (C9 := RX10) (T := TX10) (N := 53) tyX10 49 hin_10 tyX10_ok nmX10 (by rw [hM]; exact fl_X10_445) rfl (by decide) rfl (by decide +kernel) hd hlay hv k
set_option maxRecDepth 100000 in
theorem fl_X10_449 : Cond.fieldLink RX10 449 (TX10 50).1 (TX10 50).2.1 (TX10 50).2.2.1 ∈ WS := ws_t 1220 rfl rfl
theorem gf_X10_449 {M : MD} {R : Room} {mc ms : Nat} {Post : Option Value → XS → Prop} {PT : String → XS → Prop} {pc : Nat} {L : List (Nat × Value)} {st : List Value} {x : XS} {c9 : Nat} {t : List (Option Nat)} {v : Value} (hM : M.1.cls = RX10) (hd : decode M.2.1 pc = .ok (.getfield 449, 3)) (hlay : lay c9 = .inl (10, t)) (hv : fo x c9 50 t = some v) (k : PW M R mc ms Post PT (pc + 3) L (v :: st) x) : PW M R mc ms Post PT pc L (.ref c9 :: st) x := r_get (C9 := RX10) (T := TX10) (N := 53) 50 hin_10 (by rw [hM]; exact fl_X10_449) rfl (by decide) hd hlay hv k
theorem pf_X10_449 {M : MD} {R : Room} {mc ms : Nat} {Post : Option Value → XS → Prop} {PT : String → XS → Prop} {pc : Nat} {L : List (Nat × Value)} {st : List Value} {x : XS} {c9 : Nat} {t : List (Option Nat)} {v : Int32} (hM : M.1.cls = RX10) (hd : decode M.2.1 pc = .ok (.putfield 449, 3)) (hlay : lay c9 = .inl (10, t)) (hv : t[50]? = some none) (k : PW M R mc ms Post PT (pc + 3) L st (xu x c9 50 v)) : PW M R mc ms Post PT pc L (.int v :: .ref c9 :: st) x := r_put (C9 := RX10) (T := TX10) (N := 53) tyX10 50 hin_10 tyX10_ok nmX10 (by rw [hM]; exact fl_X10_449) rfl (by decide) rfl (by decide +kernel) hd hlay hv k
abbrev mX9_init : MD := (yX9_init, cX9_init, 1, none)
abbrev mX9_asked : MD := (yX9_asked, cX9_asked, 1, some (.object "FirstAsleep$Night"))
set_option maxRecDepth 100000 in
theorem mv_X9_asked : MV mX9_asked 0 := ⟨ws_t 1 rfl rfl, ws_t 876 rfl rfl, ws_t 875 rfl rfl, ws_p 29 rfl rfl, ⟨by decide, by decide, by decide +kernel⟩⟩
abbrev mX9_askedWhileReading : MD := (yX9_askedWhileReading, cX9_askedWhileReading, 6, some (.object "FirstAsleep$Night"))
set_option maxRecDepth 100000 in
theorem mv_X9_askedWhileReading : MV mX9_askedWhileReading 4 := ⟨ws_t 1 rfl rfl, ws_t 997 rfl rfl, ws_t 996 rfl rfl, ws_p 31 rfl rfl, ⟨by decide, by decide, by decide +kernel⟩⟩
abbrev mX9_best : MD := (yX9_best, cX9_best, 7, some .int)
set_option maxRecDepth 100000 in
theorem mv_X9_best : MV mX9_best 2 := ⟨ws_t 1 rfl rfl, ws_t 986 rfl rfl, ws_t 984 rfl rfl, ws_t 985 rfl rfl, ⟨by decide, by decide, by decide +kernel⟩⟩
abbrev mX9_book : MD := (yX9_book, cX9_book, 2, some .int)
set_option maxRecDepth 100000 in
theorem mv_X9_book : MV mX9_book 1 := ⟨ws_t 1 rfl rfl, ws_t 806 rfl rfl, ws_t 804 rfl rfl, ws_t 805 rfl rfl, ⟨by decide, by decide, by decide +kernel⟩⟩
abbrev mX9_changes : MD := (yX9_changes, cX9_changes, 4, some .boolean)
set_option maxRecDepth 100000 in
theorem mv_X9_changes : MV mX9_changes 1 := ⟨ws_t 1 rfl rfl, ws_t 916 rfl rfl, ws_t 914 rfl rfl, ws_t 915 rfl rfl, ⟨by decide, by decide, by decide +kernel⟩⟩
abbrev mX9_clock : MD := (yX9_clock, cX9_clock, 2, some .int)
set_option maxRecDepth 100000 in
theorem mv_X9_clock : MV mX9_clock 1 := ⟨ws_t 1 rfl rfl, ws_t 908 rfl rfl, ws_t 906 rfl rfl, ws_t 907 rfl rfl, ⟨by decide, by decide, by decide +kernel⟩⟩
abbrev mX9_count : MD := (yX9_count, cX9_count, 2, some .int)
set_option maxRecDepth 100000 in
theorem mv_X9_count : MV mX9_count 1 := ⟨ws_t 1 rfl rfl, ws_t 426 rfl rfl, ws_t 424 rfl rfl, ws_t 425 rfl rfl, ⟨by decide, by decide, by decide +kernel⟩⟩
abbrev mX9_doctor : MD := (yX9_doctor, cX9_doctor, 4, some .int)
set_option maxRecDepth 100000 in
theorem mv_X9_doctor : MV mX9_doctor 2 := ⟨ws_t 1 rfl rfl, ws_t 1110 rfl rfl, ws_t 1108 rfl rfl, ws_t 1109 rfl rfl, ⟨by decide, by decide, by decide +kernel⟩⟩
abbrev mX9_fault : MD := (yX9_fault, cX9_fault, 1, some .int)
set_option maxRecDepth 100000 in
theorem mv_X9_fault : MV mX9_fault 0 := ⟨ws_t 1 rfl rfl, ws_t 386 rfl rfl, ws_t 384 rfl rfl, ws_t 385 rfl rfl, ⟨by decide, by decide, by decide +kernel⟩⟩
abbrev mX9_feed : MD := (yX9_feed, cX9_feed, 6, some .int)
set_option maxRecDepth 100000 in
theorem mv_X9_feed : MV mX9_feed 5 := ⟨ws_t 1 rfl rfl, ws_t 374 rfl rfl, ws_t 372 rfl rfl, ws_t 373 rfl rfl, ⟨by decide, by decide, by decide +kernel⟩⟩
abbrev mX9_fits : MD := (yX9_fits, cX9_fits, 2, some .int)
set_option maxRecDepth 100000 in
theorem mv_X9_fits : MV mX9_fits 1 := ⟨ws_t 1 rfl rfl, ws_t 1066 rfl rfl, ws_t 1064 rfl rfl, ws_t 1065 rfl rfl, ⟨by decide, by decide, by decide +kernel⟩⟩
abbrev mX9_fittingSnores : MD := (yX9_fittingSnores, cX9_fittingSnores, 6, some .int)
set_option maxRecDepth 100000 in
theorem mv_X9_fittingSnores : MV mX9_fittingSnores 1 := ⟨ws_t 1 rfl rfl, ws_t 1070 rfl rfl, ws_t 1069 rfl rfl, ws_p 34 rfl rfl, ⟨by decide, by decide, by decide +kernel⟩⟩
abbrev mX9_greatestShared : MD := (yX9_greatestShared, cX9_greatestShared, 11, some .long)
set_option maxRecDepth 100000 in
theorem ms_X9_greatestShared : MS mX9_greatestShared 2 := ⟨ws_t 1 rfl rfl, ws_t 1103 rfl rfl, ws_t 1102 rfl rfl, ⟨by decide, by decide, by decide +kernel⟩⟩
abbrev mX9_head : MD := (yX9_head, cX9_head, 4, some .int)
set_option maxRecDepth 100000 in
theorem mv_X9_head : MV mX9_head 3 := ⟨ws_t 1 rfl rfl, ws_t 971 rfl rfl, ws_t 969 rfl rfl, ws_t 970 rfl rfl, ⟨by decide, by decide, by decide +kernel⟩⟩
abbrev mX9_house : MD := (yX9_house, cX9_house, 2, some .int)
set_option maxRecDepth 100000 in
theorem mv_X9_house : MV mX9_house 1 := ⟨ws_t 1 rfl rfl, ws_t 434 rfl rfl, ws_t 432 rfl rfl, ws_t 433 rfl rfl, ⟨by decide, by decide, by decide +kernel⟩⟩
abbrev mX9_hurry : MD := (yX9_hurry, cX9_hurry, 9, some .int)
set_option maxRecDepth 100000 in
theorem mv_X9_hurry : MV mX9_hurry 5 := ⟨ws_t 1 rfl rfl, ws_t 993 rfl rfl, ws_t 991 rfl rfl, ws_t 992 rfl rfl, ⟨by decide, by decide, by decide +kernel⟩⟩
abbrev mX9_image : MD := (yX9_image, cX9_image, 1, some .int)
set_option maxRecDepth 100000 in
theorem mv_X9_image : MV mX9_image 0 := ⟨ws_t 1 rfl rfl, ws_t 401 rfl rfl, ws_t 399 rfl rfl, ws_t 400 rfl rfl, ⟨by decide, by decide, by decide +kernel⟩⟩
abbrev mX9_inTurns : MD := (yX9_inTurns, cX9_inTurns, 4, some .int)
set_option maxRecDepth 100000 in
theorem mv_X9_inTurns : MV mX9_inTurns 2 := ⟨ws_t 1 rfl rfl, ws_t 1049 rfl rfl, ws_t 1047 rfl rfl, ws_t 1048 rfl rfl, ⟨by decide, by decide, by decide +kernel⟩⟩
abbrev mX9_law : MD := (yX9_law, cX9_law, 3, some .int)
set_option maxRecDepth 100000 in
theorem mv_X9_law : MV mX9_law 2 := ⟨ws_t 1 rfl rfl, ws_t 631 rfl rfl, ws_t 629 rfl rfl, ws_t 630 rfl rfl, ⟨by decide, by decide, by decide +kernel⟩⟩
abbrev mX9_leftAtWorst : MD := (yX9_leftAtWorst, cX9_leftAtWorst, 7, some .int)
set_option maxRecDepth 100000 in
theorem mv_X9_leftAtWorst : MV mX9_leftAtWorst 3 := ⟨ws_t 1 rfl rfl, ws_t 1086 rfl rfl, ws_t 1085 rfl rfl, ws_p 35 rfl rfl, ⟨by decide, by decide, by decide +kernel⟩⟩
abbrev mX9_listen : MD := (yX9_listen, cX9_listen, 8, some .int)
set_option maxRecDepth 100000 in
theorem mv_X9_listen : MV mX9_listen 2 := ⟨ws_t 1 rfl rfl, ws_t 1081 rfl rfl, ws_t 1079 rfl rfl, ws_t 1080 rfl rfl, ⟨by decide, by decide, by decide +kernel⟩⟩
abbrev mX9_loud : MD := (yX9_loud, cX9_loud, 2, some .int)
set_option maxRecDepth 100000 in
theorem mv_X9_loud : MV mX9_loud 1 := ⟨ws_t 1 rfl rfl, ws_t 889 rfl rfl, ws_t 887 rfl rfl, ws_t 888 rfl rfl, ⟨by decide, by decide, by decide +kernel⟩⟩
abbrev mX9_loudest : MD := (yX9_loudest, cX9_loudest, 7, some .int)
set_option maxRecDepth 100000 in
theorem mv_X9_loudest : MV mX9_loudest 1 := ⟨ws_t 1 rfl rfl, ws_t 925 rfl rfl, ws_t 923 rfl rfl, ws_t 924 rfl rfl, ⟨by decide, by decide, by decide +kernel⟩⟩
abbrev mX9_most : MD := (yX9_most, cX9_most, 7, some .int)
set_option maxRecDepth 100000 in
theorem mv_X9_most : MV mX9_most 1 := ⟨ws_t 1 rfl rfl, ws_t 964 rfl rfl, ws_t 962 rfl rfl, ws_t 963 rfl rfl, ⟨by decide, by decide, by decide +kernel⟩⟩
abbrev mX9_nights : MD := (yX9_nights, cX9_nights, 7, some .int)
set_option maxRecDepth 100000 in
theorem mv_X9_nights : MV mX9_nights 5 := ⟨ws_t 1 rfl rfl, ws_t 1131 rfl rfl, ws_t 1129 rfl rfl, ws_t 1130 rfl rfl, ⟨by decide, by decide, by decide +kernel⟩⟩
abbrev mX9_nightsToListen : MD := (yX9_nightsToListen, cX9_nightsToListen, 8, some .int)
set_option maxRecDepth 100000 in
theorem mv_X9_nightsToListen : MV mX9_nightsToListen 3 := ⟨ws_t 1 rfl rfl, ws_t 1059 rfl rfl, ws_t 1058 rfl rfl, ws_p 33 rfl rfl, ⟨by decide, by decide, by decide +kernel⟩⟩
abbrev mX9_noise : MD := (yX9_noise, cX9_noise, 3, some .int)
set_option maxRecDepth 100000 in
theorem mv_X9_noise : MV mX9_noise 1 := ⟨ws_t 1 rfl rfl, ws_t 872 rfl rfl, ws_t 870 rfl rfl, ws_t 871 rfl rfl, ⟨by decide, by decide, by decide +kernel⟩⟩
abbrev mX9_nudges : MD := (yX9_nudges, cX9_nudges, 9, some .int)
set_option maxRecDepth 100000 in
theorem mv_X9_nudges : MV mX9_nudges 4 := ⟨ws_t 1 rfl rfl, ws_t 1027 rfl rfl, ws_t 1025 rfl rfl, ws_t 1026 rfl rfl, ⟨by decide, by decide, by decide +kernel⟩⟩
abbrev mX9_openText : MD := (yX9_openText, cX9_openText, 3, none)
set_option maxRecDepth 100000 in
theorem mv_X9_openText : MV mX9_openText 2 := ⟨ws_t 1 rfl rfl, ws_t 438 rfl rfl, ws_t 437 rfl rfl, ws_p 1 rfl rfl, ⟨by decide, by decide, by decide +kernel⟩⟩
abbrev mX9_pauses : MD := (yX9_pauses, cX9_pauses, 11, some .long)
set_option maxRecDepth 100000 in
theorem mv_X9_pauses : MV mX9_pauses 4 := ⟨ws_t 1 rfl rfl, ws_t 1093 rfl rfl, ws_t 1091 rfl rfl, ws_t 1092 rfl rfl, ⟨by decide, by decide, by decide +kernel⟩⟩
abbrev mX9_pausesAbove : MD := (yX9_pausesAbove, cX9_pausesAbove, 6, some .long)
set_option maxRecDepth 100000 in
theorem ms_X9_pausesAbove : MS mX9_pausesAbove 3 := ⟨ws_t 1 rfl rfl, ws_t 1096 rfl rfl, ws_t 1095 rfl rfl, ⟨by decide, by decide, by decide +kernel⟩⟩
abbrev mX9_pausesBelow : MD := (yX9_pausesBelow, cX9_pausesBelow, 1, some .long)
set_option maxRecDepth 100000 in
theorem ms_X9_pausesBelow : MS mX9_pausesBelow 1 := ⟨ws_t 1 rfl rfl, ws_t 1100 rfl rfl, ws_t 1099 rfl rfl, ⟨by decide, by decide, by decide +kernel⟩⟩
abbrev mX9_plugs : MD := (yX9_plugs, cX9_plugs, 6, some .int)
set_option maxRecDepth 100000 in
theorem mv_X9_plugs : MV mX9_plugs 3 := ⟨ws_t 1 rfl rfl, ws_t 1124 rfl rfl, ws_t 1122 rfl rfl, ws_t 1123 rfl rfl, ⟨by decide, by decide, by decide +kernel⟩⟩
abbrev mX9_reads : MD := (yX9_reads, cX9_reads, 6, some .int)
set_option maxRecDepth 100000 in
theorem mv_X9_reads : MV mX9_reads 5 := ⟨ws_t 1 rfl rfl, ws_t 1020 rfl rfl, ws_t 1018 rfl rfl, ws_t 1019 rfl rfl, ⟨by decide, by decide, by decide +kernel⟩⟩
abbrev mX9_require : MD := (yX9_require, cX9_require, 2, none)
set_option maxRecDepth 100000 in
theorem mv_X9_require : MV mX9_require 1 := ⟨ws_t 1 rfl rfl, ws_t 446 rfl rfl, ws_t 445 rfl rfl, ws_p 2 rfl rfl, ⟨by decide, by decide, by decide +kernel⟩⟩
abbrev mX9_requireCars : MD := (yX9_requireCars, cX9_requireCars, 4, none)
set_option maxRecDepth 100000 in
theorem mv_X9_requireCars : MV mX9_requireCars 3 := ⟨ws_t 1 rfl rfl, ws_t 1135 rfl rfl, ws_t 1134 rfl rfl, ws_p 36 rfl rfl, ⟨by decide, by decide, by decide +kernel⟩⟩
abbrev mX9_requireSleeper : MD := (yX9_requireSleeper, cX9_requireSleeper, 2, none)
set_option maxRecDepth 100000 in
theorem mv_X9_requireSleeper : MV mX9_requireSleeper 1 := ⟨ws_t 1 rfl rfl, ws_t 849 rfl rfl, ws_t 848 rfl rfl, ws_p 28 rfl rfl, ⟨by decide, by decide, by decide +kernel⟩⟩
abbrev mX9_restore : MD := (yX9_restore, cX9_restore, 1, some .int)
set_option maxRecDepth 100000 in
theorem mv_X9_restore : MV mX9_restore 0 := ⟨ws_t 1 rfl rfl, ws_t 414 rfl rfl, ws_t 412 rfl rfl, ws_t 413 rfl rfl, ⟨by decide, by decide, by decide +kernel⟩⟩
abbrev mX9_rooms : MD := (yX9_rooms, cX9_rooms, 8, some .int)
set_option maxRecDepth 100000 in
theorem mv_X9_rooms : MV mX9_rooms 2 := ⟨ws_t 1 rfl rfl, ws_t 1038 rfl rfl, ws_t 1036 rfl rfl, ws_t 1037 rfl rfl, ⟨by decide, by decide, by decide +kernel⟩⟩
abbrev mX9_sleeper : MD := (yX9_sleeper, cX9_sleeper, 3, some .int)
set_option maxRecDepth 100000 in
theorem mv_X9_sleeper : MV mX9_sleeper 2 := ⟨ws_t 1 rfl rfl, ws_t 845 rfl rfl, ws_t 843 rfl rfl, ws_t 844 rfl rfl, ⟨by decide, by decide, by decide +kernel⟩⟩
abbrev mX9_sleeps : MD := (yX9_sleeps, cX9_sleeps, 3, some .int)
set_option maxRecDepth 100000 in
theorem mv_X9_sleeps : MV mX9_sleeps 2 := ⟨ws_t 1 rfl rfl, ws_t 952 rfl rfl, ws_t 950 rfl rfl, ws_t 951 rfl rfl, ⟨by decide, by decide, by decide +kernel⟩⟩
abbrev mX9_slept : MD := (yX9_slept, cX9_slept, 2, some .int)
set_option maxRecDepth 100000 in
theorem mv_X9_slept : MV mX9_slept 1 := ⟨ws_t 1 rfl rfl, ws_t 940 rfl rfl, ws_t 938 rfl rfl, ws_t 939 rfl rfl, ⟨by decide, by decide, by decide +kernel⟩⟩
abbrev mX9_sleptByHead : MD := (yX9_sleptByHead, cX9_sleptByHead, 6, some .int)
set_option maxRecDepth 100000 in
theorem mv_X9_sleptByHead : MV mX9_sleptByHead 3 := ⟨ws_t 1 rfl rfl, ws_t 975 rfl rfl, ws_t 974 rfl rfl, ws_p 30 rfl rfl, ⟨by decide, by decide, by decide +kernel⟩⟩
abbrev mX9_soon : MD := (yX9_soon, cX9_soon, 4, some .int)
set_option maxRecDepth 100000 in
theorem mv_X9_soon : MV mX9_soon 1 := ⟨ws_t 1 rfl rfl, ws_t 933 rfl rfl, ws_t 931 rfl rfl, ws_t 932 rfl rfl, ⟨by decide, by decide, by decide +kernel⟩⟩
abbrev mX9_span : MD := (yX9_span, cX9_span, 13, some .int)
set_option maxRecDepth 100000 in
theorem mv_X9_span : MV mX9_span 6 := ⟨ws_t 1 rfl rfl, ws_t 1147 rfl rfl, ws_t 1145 rfl rfl, ws_t 1146 rfl rfl, ⟨by decide, by decide, by decide +kernel⟩⟩
abbrev mX9_status : MD := (yX9_status, cX9_status, 2, some .int)
set_option maxRecDepth 100000 in
theorem mv_X9_status : MV mX9_status 1 := ⟨ws_t 1 rfl rfl, ws_t 422 rfl rfl, ws_t 420 rfl rfl, ws_t 421 rfl rfl, ⟨by decide, by decide, by decide +kernel⟩⟩
abbrev mX9_told : MD := (yX9_told, cX9_told, 2, some .int)
set_option maxRecDepth 100000 in
theorem mv_X9_told : MV mX9_told 1 := ⟨ws_t 1 rfl rfl, ws_t 829 rfl rfl, ws_t 827 rfl rfl, ws_t 828 rfl rfl, ⟨by decide, by decide, by decide +kernel⟩⟩
abbrev mX9_undo : MD := (yX9_undo, cX9_undo, 1, some .int)
set_option maxRecDepth 100000 in
theorem mv_X9_undo : MV mX9_undo 0 := ⟨ws_t 1 rfl rfl, ws_t 390 rfl rfl, ws_t 388 rfl rfl, ws_t 389 rfl rfl, ⟨by decide, by decide, by decide +kernel⟩⟩
abbrev mX9_wall : MD := (yX9_wall, cX9_wall, 7, some .int)
set_option maxRecDepth 100000 in
theorem mv_X9_wall : MV mX9_wall 1 := ⟨ws_t 1 rfl rfl, ws_t 1117 rfl rfl, ws_t 1115 rfl rfl, ws_t 1116 rfl rfl, ⟨by decide, by decide, by decide +kernel⟩⟩
abbrev mX9_within : MD := (yX9_within, cX9_within, 3, some .boolean)
set_option maxRecDepth 100000 in
theorem ms_X9_within : MS mX9_within 3 := ⟨ws_t 1 rfl rfl, ws_t 442 rfl rfl, ws_t 441 rfl rfl, ⟨by decide, by decide, by decide +kernel⟩⟩
abbrev mX9_work : MD := (yX9_work, cX9_work, 2, some .int)
set_option maxRecDepth 100000 in
theorem mv_X9_work : MV mX9_work 1 := ⟨ws_t 1 rfl rfl, ws_t 681 rfl rfl, ws_t 679 rfl rfl, ws_t 680 rfl rfl, ⟨by decide, by decide, by decide +kernel⟩⟩
abbrev mX9_would : MD := (yX9_would, cX9_would, 6, some .int)
set_option maxRecDepth 100000 in
theorem mv_X9_would : MV mX9_would 5 := ⟨ws_t 1 rfl rfl, ws_t 897 rfl rfl, ws_t 895 rfl rfl, ws_t 896 rfl rfl, ⟨by decide, by decide, by decide +kernel⟩⟩
abbrev mX0_init : MD := (yX0_init, cX0_init, 1, none)
abbrev mX0_keep : MD := (yX0_keep, cX0_keep, 3, some .boolean)
set_option maxRecDepth 100000 in
theorem mv_X0_keep : MV mX0_keep 2 := ⟨ws_t 9 rfl rfl, ws_t 405 rfl rfl, ws_t 403 rfl rfl, ws_t 404 rfl rfl, ⟨by decide, by decide, by decide +kernel⟩⟩
abbrev mX0_takeBack : MD := (yX0_takeBack, cX0_takeBack, 3, some .boolean)
set_option maxRecDepth 100000 in
theorem mv_X0_takeBack : MV mX0_takeBack 2 := ⟨ws_t 9 rfl rfl, ws_t 418 rfl rfl, ws_t 416 rfl rfl, ws_t 417 rfl rfl, ⟨by decide, by decide, by decide +kernel⟩⟩
abbrev mX1_init : MD := (yX1_init, cX1_init, 1, none)
abbrev mX1_copy : MD := (yX1_copy, cX1_copy, 3, none)
set_option maxRecDepth 100000 in
theorem mv_X1_copy : MV mX1_copy 1 := ⟨ws_t 5 rfl rfl, ws_t 822 rfl rfl, ws_t 820 rfl rfl, ws_t 821 rfl rfl, ⟨by decide, by decide, by decide +kernel⟩⟩
abbrev mX1_has : MD := (yX1_has, cX1_has, 3, some .boolean)
set_option maxRecDepth 100000 in
theorem mv_X1_has : MV mX1_has 1 := ⟨ws_t 5 rfl rfl, ws_t 816 rfl rfl, ws_t 814 rfl rfl, ws_t 815 rfl rfl, ⟨by decide, by decide, by decide +kernel⟩⟩
abbrev mX1_read : MD := (yX1_read, cX1_read, 5, some .boolean)
set_option maxRecDepth 100000 in
theorem mv_X1_read : MV mX1_read 1 := ⟨ws_t 5 rfl rfl, ws_t 810 rfl rfl, ws_t 808 rfl rfl, ws_t 809 rfl rfl, ⟨by decide, by decide, by decide +kernel⟩⟩
abbrev mX2_init : MD := (yX2_init, cX2_init, 1, none)
abbrev mX2_copy : MD := (yX2_copy, cX2_copy, 3, none)
set_option maxRecDepth 100000 in
theorem mv_X2_copy : MV mX2_copy 1 := ⟨ws_t 8 rfl rfl, ws_t 410 rfl rfl, ws_t 408 rfl rfl, ws_t 409 rfl rfl, ⟨by decide, by decide, by decide +kernel⟩⟩
abbrev mX2_isFull : MD := (yX2_isFull, cX2_isFull, 1, some .boolean)
set_option maxRecDepth 100000 in
theorem mv_X2_isFull : MV mX2_isFull 0 := ⟨ws_t 8 rfl rfl, ws_t 685 rfl rfl, ws_t 683 rfl rfl, ws_t 684 rfl rfl, ⟨by decide, by decide, by decide +kernel⟩⟩
abbrev mX2_keep : MD := (yX2_keep, cX2_keep, 2, none)
set_option maxRecDepth 100000 in
theorem mv_X2_keep : MV mX2_keep 1 := ⟨ws_t 8 rfl rfl, ws_t 720 rfl rfl, ws_t 718 rfl rfl, ws_t 719 rfl rfl, ⟨by decide, by decide, by decide +kernel⟩⟩
abbrev mX2_takeBack : MD := (yX2_takeBack, cX2_takeBack, 2, none)
set_option maxRecDepth 100000 in
theorem mv_X2_takeBack : MV mX2_takeBack 1 := ⟨ws_t 8 rfl rfl, ws_t 394 rfl rfl, ws_t 392 rfl rfl, ws_t 393 rfl rfl, ⟨by decide, by decide, by decide +kernel⟩⟩
abbrev mX3_init : MD := (yX3_init, cX3_init, 1, none)
abbrev mX3_clear : MD := (yX3_clear, cX3_clear, 2, none)
set_option maxRecDepth 100000 in
theorem mv_X3_clear : MV mX3_clear 0 := ⟨ws_t 3 rfl rfl, ws_t 521 rfl rfl, ws_t 520 rfl rfl, ws_p 4 rfl rfl, ⟨by decide, by decide, by decide +kernel⟩⟩
abbrev mX3_copy : MD := (yX3_copy, cX3_copy, 3, none)
set_option maxRecDepth 100000 in
theorem mv_X3_copy : MV mX3_copy 1 := ⟨ws_t 3 rfl rfl, ws_t 623 rfl rfl, ws_t 621 rfl rfl, ws_t 622 rfl rfl, ⟨by decide, by decide, by decide +kernel⟩⟩
abbrev mX3_read : MD := (yX3_read, cX3_read, 4, some .boolean)
set_option maxRecDepth 100000 in
theorem mv_X3_read : MV mX3_read 1 := ⟨ws_t 3 rfl rfl, ws_t 517 rfl rfl, ws_t 515 rfl rfl, ws_t 516 rfl rfl, ⟨by decide, by decide, by decide +kernel⟩⟩
abbrev mX3_readClause : MD := (yX3_readClause, cX3_readClause, 3, some .boolean)
set_option maxRecDepth 100000 in
theorem mv_X3_readClause : MV mX3_readClause 2 := ⟨ws_t 3 rfl rfl, ws_t 592 rfl rfl, ws_t 591 rfl rfl, ws_p 6 rfl rfl, ⟨by decide, by decide, by decide +kernel⟩⟩
abbrev mX3_readClock : MD := (yX3_readClock, cX3_readClock, 4, some .boolean)
set_option maxRecDepth 100000 in
theorem mv_X3_readClock : MV mX3_readClock 1 := ⟨ws_t 3 rfl rfl, ws_t 615 rfl rfl, ws_t 614 rfl rfl, ws_p 9 rfl rfl, ⟨by decide, by decide, by decide +kernel⟩⟩
abbrev mX3_readInto : MD := (yX3_readInto, cX3_readInto, 5, some .boolean)
set_option maxRecDepth 100000 in
theorem ms_X3_readInto : MS mX3_readInto 4 := ⟨ws_t 3 rfl rfl, ws_t 599 rfl rfl, ws_t 598 rfl rfl, ⟨by decide, by decide, by decide +kernel⟩⟩
abbrev mX3_readOf : MD := (yX3_readOf, cX3_readOf, 5, some .boolean)
set_option maxRecDepth 100000 in
theorem mv_X3_readOf : MV mX3_readOf 3 := ⟨ws_t 3 rfl rfl, ws_t 611 rfl rfl, ws_t 610 rfl rfl, ws_p 8 rfl rfl, ⟨by decide, by decide, by decide +kernel⟩⟩
abbrev mX3_readSleeper : MD := (yX3_readSleeper, cX3_readSleeper, 3, some .boolean)
set_option maxRecDepth 100000 in
theorem mv_X3_readSleeper : MV mX3_readSleeper 1 := ⟨ws_t 3 rfl rfl, ws_t 596 rfl rfl, ws_t 595 rfl rfl, ws_p 7 rfl rfl, ⟨by decide, by decide, by decide +kernel⟩⟩
abbrev mX3_strikesIn : MD := (yX3_strikesIn, cX3_strikesIn, 2, some .int)
set_option maxRecDepth 100000 in
theorem mv_X3_strikesIn : MV mX3_strikesIn 1 := ⟨ws_t 3 rfl rfl, ws_t 775 rfl rfl, ws_t 773 rfl rfl, ws_t 774 rfl rfl, ⟨by decide, by decide, by decide +kernel⟩⟩
abbrev mX4_init : MD := (yX4_init, cX4_init, 1, none)
abbrev mX4_findRests : MD := (yX4_findRests, cX4_findRests, 5, none)
set_option maxRecDepth 100000 in
theorem mv_X4_findRests : MV mX4_findRests 1 := ⟨ws_t 10 rfl rfl, ws_t 1009 rfl rfl, ws_t 1007 rfl rfl, ws_t 1008 rfl rfl, ⟨by decide, by decide, by decide +kernel⟩⟩
abbrev mX4_isRest : MD := (yX4_isRest, cX4_isRest, 6, some .boolean)
set_option maxRecDepth 100000 in
theorem mv_X4_isRest : MV mX4_isRest 3 := ⟨ws_t 10 rfl rfl, ws_t 1013 rfl rfl, ws_t 1012 rfl rfl, ws_p 32 rfl rfl, ⟨by decide, by decide, by decide +kernel⟩⟩
abbrev mX4_put : MD := (yX4_put, cX4_put, 6, none)
set_option maxRecDepth 100000 in
theorem mv_X4_put : MV mX4_put 4 := ⟨ws_t 10 rfl rfl, ws_t 1005 rfl rfl, ws_t 1003 rfl rfl, ws_t 1004 rfl rfl, ⟨by decide, by decide, by decide +kernel⟩⟩
abbrev mX5_init : MD := (yX5_init, cX5_init, 1, none)
abbrev mX5_copy : MD := (yX5_copy, cX5_copy, 2, none)
set_option maxRecDepth 100000 in
theorem mv_X5_copy : MV mX5_copy 1 := ⟨ws_t 4 rfl rfl, ws_t 674 rfl rfl, ws_t 672 rfl rfl, ws_t 673 rfl rfl, ⟨by decide, by decide, by decide +kernel⟩⟩
abbrev mX5_join : MD := (yX5_join, cX5_join, 3, some .int)
set_option maxRecDepth 100000 in
theorem ms_X5_join : MS mX5_join 3 := ⟨ws_t 4 rfl rfl, ws_t 764 rfl rfl, ws_t 763 rfl rfl, ⟨by decide, by decide, by decide +kernel⟩⟩
abbrev mX5_put : MD := (yX5_put, cX5_put, 2, none)
set_option maxRecDepth 100000 in
theorem mv_X5_put : MV mX5_put 1 := ⟨ws_t 4 rfl rfl, ws_t 664 rfl rfl, ws_t 663 rfl rfl, ws_p 14 rfl rfl, ⟨by decide, by decide, by decide +kernel⟩⟩
abbrev mX5_read : MD := (yX5_read, cX5_read, 2, some .boolean)
set_option maxRecDepth 100000 in
theorem mv_X5_read : MV mX5_read 1 := ⟨ws_t 4 rfl rfl, ws_t 635 rfl rfl, ws_t 633 rfl rfl, ws_t 634 rfl rfl, ⟨by decide, by decide, by decide +kernel⟩⟩
abbrev mX5_readNamed : MD := (yX5_readNamed, cX5_readNamed, 4, some .boolean)
set_option maxRecDepth 100000 in
theorem mv_X5_readNamed : MV mX5_readNamed 2 := ⟨ws_t 4 rfl rfl, ws_t 658 rfl rfl, ws_t 657 rfl rfl, ws_p 13 rfl rfl, ⟨by decide, by decide, by decide +kernel⟩⟩
abbrev mX5_readProduct : MD := (yX5_readProduct, cX5_readProduct, 5, some .boolean)
set_option maxRecDepth 100000 in
theorem mv_X5_readProduct : MV mX5_readProduct 2 := ⟨ws_t 4 rfl rfl, ws_t 643 rfl rfl, ws_t 642 rfl rfl, ws_p 11 rfl rfl, ⟨by decide, by decide, by decide +kernel⟩⟩
abbrev mX5_readSum : MD := (yX5_readSum, cX5_readSum, 5, some .boolean)
set_option maxRecDepth 100000 in
theorem mv_X5_readSum : MV mX5_readSum 2 := ⟨ws_t 4 rfl rfl, ws_t 639 rfl rfl, ws_t 638 rfl rfl, ws_p 10 rfl rfl, ⟨by decide, by decide, by decide +kernel⟩⟩
abbrev mX5_readUnit : MD := (yX5_readUnit, cX5_readUnit, 5, some .boolean)
set_option maxRecDepth 100000 in
theorem mv_X5_readUnit : MV mX5_readUnit 2 := ⟨ws_t 4 rfl rfl, ws_t 647 rfl rfl, ws_t 646 rfl rfl, ws_p 12 rfl rfl, ⟨by decide, by decide, by decide +kernel⟩⟩
abbrev mX5_takeCode : MD := (yX5_takeCode, cX5_takeCode, 4, none)
set_option maxRecDepth 100000 in
theorem mv_X5_takeCode : MV mX5_takeCode 2 := ⟨ws_t 4 rfl rfl, ws_t 305 rfl rfl, ws_t 304 rfl rfl, ws_p 0 rfl rfl, ⟨by decide, by decide, by decide +kernel⟩⟩
abbrev mX5_takeFallsWithout : MD := (yX5_takeFallsWithout, cX5_takeFallsWithout, 1, none)
set_option maxRecDepth 100000 in
theorem mv_X5_takeFallsWithout : MV mX5_takeFallsWithout 0 := ⟨ws_t 4 rfl rfl, ws_t 312 rfl rfl, ws_t 310 rfl rfl, ws_t 311 rfl rfl, ⟨by decide, by decide, by decide +kernel⟩⟩
abbrev mX5_takeLoudWithout : MD := (yX5_takeLoudWithout, cX5_takeLoudWithout, 1, none)
set_option maxRecDepth 100000 in
theorem mv_X5_takeLoudWithout : MV mX5_takeLoudWithout 0 := ⟨ws_t 4 rfl rfl, ws_t 299 rfl rfl, ws_t 297 rfl rfl, ws_t 298 rfl rfl, ⟨by decide, by decide, by decide +kernel⟩⟩
abbrev mX5_value : MD := (yX5_value, cX5_value, 6, some .int)
set_option maxRecDepth 100000 in
theorem mv_X5_value : MV mX5_value 1 := ⟨ws_t 4 rfl rfl, ws_t 761 rfl rfl, ws_t 759 rfl rfl, ws_t 760 rfl rfl, ⟨by decide, by decide, by decide +kernel⟩⟩
abbrev mX6_init : MD := (yX6_init, cX6_init, 3, none)
abbrev mX6_asleepCount : MD := (yX6_asleepCount, cX6_asleepCount, 3, some .int)
set_option maxRecDepth 100000 in
theorem mv_X6_asleepCount : MV mX6_asleepCount 0 := ⟨ws_t 7 rfl rfl, ws_t 833 rfl rfl, ws_t 831 rfl rfl, ws_t 832 rfl rfl, ⟨by decide, by decide, by decide +kernel⟩⟩
abbrev mX6_begin : MD := (yX6_begin, cX6_begin, 2, none)
set_option maxRecDepth 100000 in
theorem mv_X6_begin : MV mX6_begin 0 := ⟨ws_t 7 rfl rfl, ws_t 318 rfl rfl, ws_t 316 rfl rfl, ws_t 317 rfl rfl, ⟨by decide, by decide, by decide +kernel⟩⟩
abbrev mX6_bounded : MD := (yX6_bounded, cX6_bounded, 1, some .int)
set_option maxRecDepth 100000 in
theorem ms_X6_bounded : MS mX6_bounded 1 := ⟨ws_t 7 rfl rfl, ws_t 767 rfl rfl, ws_t 766 rfl rfl, ⟨by decide, by decide, by decide +kernel⟩⟩
abbrev mX6_call : MD := (yX6_call, cX6_call, 2, some .boolean)
set_option maxRecDepth 100000 in
theorem mv_X6_call : MV mX6_call 1 := ⟨ws_t 7 rfl rfl, ws_t 795 rfl rfl, ws_t 794 rfl rfl, ws_p 26 rfl rfl, ⟨by decide, by decide, by decide +kernel⟩⟩
abbrev mX6_fallOrStay : MD := (yX6_fallOrStay, cX6_fallOrStay, 2, none)
set_option maxRecDepth 100000 in
theorem mv_X6_fallOrStay : MV mX6_fallOrStay 1 := ⟨ws_t 7 rfl rfl, ws_t 787 rfl rfl, ws_t 786 rfl rfl, ws_p 24 rfl rfl, ⟨by decide, by decide, by decide +kernel⟩⟩
abbrev mX6_falls : MD := (yX6_falls, cX6_falls, 2, some .boolean)
set_option maxRecDepth 100000 in
theorem mv_X6_falls : MV mX6_falls 1 := ⟨ws_t 7 rfl rfl, ws_t 791 rfl rfl, ws_t 790 rfl rfl, ws_p 25 rfl rfl, ⟨by decide, by decide, by decide +kernel⟩⟩
abbrev mX6_follow : MD := (yX6_follow, cX6_follow, 3, none)
set_option maxRecDepth 100000 in
theorem mv_X6_follow : MV mX6_follow 1 := ⟨ws_t 7 rfl rfl, ws_t 880 rfl rfl, ws_t 878 rfl rfl, ws_t 879 rfl rfl, ⟨by decide, by decide, by decide +kernel⟩⟩
abbrev mX6_giveTold : MD := (yX6_giveTold, cX6_giveTold, 2, none)
set_option maxRecDepth 100000 in
theorem mv_X6_giveTold : MV mX6_giveTold 1 := ⟨ws_t 7 rfl rfl, ws_t 757 rfl rfl, ws_t 756 rfl rfl, ws_p 22 rfl rfl, ⟨by decide, by decide, by decide +kernel⟩⟩
abbrev mX6_hearAll : MD := (yX6_hearAll, cX6_hearAll, 6, none)
set_option maxRecDepth 100000 in
theorem mv_X6_hearAll : MV mX6_hearAll 1 := ⟨ws_t 7 rfl rfl, ws_t 749 rfl rfl, ws_t 747 rfl rfl, ws_t 748 rfl rfl, ⟨by decide, by decide, by decide +kernel⟩⟩
abbrev mX6_isAsleep : MD := (yX6_isAsleep, cX6_isAsleep, 2, some .boolean)
set_option maxRecDepth 100000 in
theorem mv_X6_isAsleep : MV mX6_isAsleep 1 := ⟨ws_t 7 rfl rfl, ws_t 737 rfl rfl, ws_t 735 rfl rfl, ws_t 736 rfl rfl, ⟨by decide, by decide, by decide +kernel⟩⟩
abbrev mX6_keepAwake : MD := (yX6_keepAwake, cX6_keepAwake, 3, none)
set_option maxRecDepth 100000 in
theorem mv_X6_keepAwake : MV mX6_keepAwake 2 := ⟨ws_t 7 rfl rfl, ws_t 979 rfl rfl, ws_t 977 rfl rfl, ws_t 978 rfl rfl, ⟨by decide, by decide, by decide +kernel⟩⟩
abbrev mX6_loudBy : MD := (yX6_loudBy, cX6_loudBy, 6, some .int)
set_option maxRecDepth 100000 in
theorem mv_X6_loudBy : MV mX6_loudBy 5 := ⟨ws_t 7 rfl rfl, ws_t 901 rfl rfl, ws_t 899 rfl rfl, ws_t 900 rfl rfl, ⟨by decide, by decide, by decide +kernel⟩⟩
abbrev mX6_loudHad : MD := (yX6_loudHad, cX6_loudHad, 4, some .int)
set_option maxRecDepth 100000 in
theorem mv_X6_loudHad : MV mX6_loudHad 3 := ⟨ws_t 7 rfl rfl, ws_t 1074 rfl rfl, ws_t 1072 rfl rfl, ws_t 1073 rfl rfl, ⟨by decide, by decide, by decide +kernel⟩⟩
abbrev mX6_loudOf : MD := (yX6_loudOf, cX6_loudOf, 2, some .int)
set_option maxRecDepth 100000 in
theorem mv_X6_loudOf : MV mX6_loudOf 1 := ⟨ws_t 7 rfl rfl, ws_t 753 rfl rfl, ws_t 751 rfl rfl, ws_t 752 rfl rfl, ⟨by decide, by decide, by decide +kernel⟩⟩
abbrev mX6_nudge : MD := (yX6_nudge, cX6_nudge, 4, some .boolean)
set_option maxRecDepth 100000 in
theorem mv_X6_nudge : MV mX6_nudge 2 := ⟨ws_t 7 rfl rfl, ws_t 733 rfl rfl, ws_t 732 rfl rfl, ws_p 20 rfl rfl, ⟨by decide, by decide, by decide +kernel⟩⟩
abbrev mX6_oneSleptInNext : MD := (yX6_oneSleptInNext, cX6_oneSleptInNext, 4, some .int)
set_option maxRecDepth 100000 in
theorem mv_X6_oneSleptInNext : MV mX6_oneSleptInNext 2 := ⟨ws_t 7 rfl rfl, ws_t 956 rfl rfl, ws_t 954 rfl rfl, ws_t 955 rfl rfl, ⟨by decide, by decide, by decide +kernel⟩⟩
abbrev mX6_passMinute : MD := (yX6_passMinute, cX6_passMinute, 3, some .boolean)
set_option maxRecDepth 100000 in
theorem mv_X6_passMinute : MV mX6_passMinute 1 := ⟨ws_t 7 rfl rfl, ws_t 745 rfl rfl, ws_t 743 rfl rfl, ws_t 744 rfl rfl, ⟨by decide, by decide, by decide +kernel⟩⟩
abbrev mX6_passWithCars : MD := (yX6_passWithCars, cX6_passWithCars, 8, none)
set_option maxRecDepth 100000 in
theorem mv_X6_passWithCars : MV mX6_passWithCars 4 := ⟨ws_t 7 rfl rfl, ws_t 1139 rfl rfl, ws_t 1137 rfl rfl, ws_t 1138 rfl rfl, ⟨by decide, by decide, by decide +kernel⟩⟩
abbrev mX6_perform : MD := (yX6_perform, cX6_perform, 4, some .boolean)
set_option maxRecDepth 100000 in
theorem mv_X6_perform : MV mX6_perform 3 := ⟨ws_t 7 rfl rfl, ws_t 729 rfl rfl, ws_t 727 rfl rfl, ws_t 728 rfl rfl, ⟨by decide, by decide, by decide +kernel⟩⟩
abbrev mX6_performAwake : MD := (yX6_performAwake, cX6_performAwake, 4, some .boolean)
set_option maxRecDepth 100000 in
theorem mv_X6_performAwake : MV mX6_performAwake 3 := ⟨ws_t 7 rfl rfl, ws_t 799 rfl rfl, ws_t 798 rfl rfl, ws_p 27 rfl rfl, ⟨by decide, by decide, by decide +kernel⟩⟩
abbrev mX6_reaching : MD := (yX6_reaching, cX6_reaching, 4, some .int)
set_option maxRecDepth 100000 in
theorem mv_X6_reaching : MV mX6_reaching 2 := ⟨ws_t 7 rfl rfl, ws_t 779 rfl rfl, ws_t 777 rfl rfl, ws_t 778 rfl rfl, ⟨by decide, by decide, by decide +kernel⟩⟩
abbrev mX6_settle : MD := (yX6_settle, cX6_settle, 4, some .boolean)
set_option maxRecDepth 100000 in
theorem mv_X6_settle : MV mX6_settle 1 := ⟨ws_t 7 rfl rfl, ws_t 1042 rfl rfl, ws_t 1040 rfl rfl, ws_t 1041 rfl rfl, ⟨by decide, by decide, by decide +kernel⟩⟩
abbrev mX6_sleepOrWake : MD := (yX6_sleepOrWake, cX6_sleepOrWake, 2, none)
set_option maxRecDepth 100000 in
theorem mv_X6_sleepOrWake : MV mX6_sleepOrWake 1 := ⟨ws_t 7 rfl rfl, ws_t 783 rfl rfl, ws_t 782 rfl rfl, ws_p 23 rfl rfl, ⟨by decide, by decide, by decide +kernel⟩⟩
abbrev mX6_sleptByAll : MD := (yX6_sleptByAll, cX6_sleptByAll, 3, some .int)
set_option maxRecDepth 100000 in
theorem mv_X6_sleptByAll : MV mX6_sleptByAll 0 := ⟨ws_t 7 rfl rfl, ws_t 837 rfl rfl, ws_t 835 rfl rfl, ws_t 836 rfl rfl, ⟨by decide, by decide, by decide +kernel⟩⟩
abbrev mX6_sleptInNext : MD := (yX6_sleptInNext, cX6_sleptInNext, 4, some .int)
set_option maxRecDepth 100000 in
theorem mv_X6_sleptInNext : MV mX6_sleptInNext 1 := ⟨ws_t 7 rfl rfl, ws_t 944 rfl rfl, ws_t 942 rfl rfl, ws_t 943 rfl rfl, ⟨by decide, by decide, by decide +kernel⟩⟩
abbrev mX6_sleptSince : MD := (yX6_sleptSince, cX6_sleptSince, 3, some .int)
set_option maxRecDepth 100000 in
theorem mv_X6_sleptSince : MV mX6_sleptSince 2 := ⟨ws_t 7 rfl rfl, ws_t 1001 rfl rfl, ws_t 999 rfl rfl, ws_t 1000 rfl rfl, ⟨by decide, by decide, by decide +kernel⟩⟩
abbrev mX6_sleptWithNudges : MD := (yX6_sleptWithNudges, cX6_sleptWithNudges, 7, some .int)
set_option maxRecDepth 100000 in
theorem mv_X6_sleptWithNudges : MV mX6_sleptWithNudges 4 := ⟨ws_t 7 rfl rfl, ws_t 1031 rfl rfl, ws_t 1029 rfl rfl, ws_t 1030 rfl rfl, ⟨by decide, by decide, by decide +kernel⟩⟩
abbrev mX6_wake : MD := (yX6_wake, cX6_wake, 2, none)
set_option maxRecDepth 100000 in
theorem mv_X6_wake : MV mX6_wake 1 := ⟨ws_t 7 rfl rfl, ws_t 741 rfl rfl, ws_t 740 rfl rfl, ws_p 21 rfl rfl, ⟨by decide, by decide, by decide +kernel⟩⟩
abbrev mX7_init : MD := (yX7_init, cX7_init, 1, none)
abbrev mX7_carryOut : MD := (yX7_carryOut, cX7_carryOut, 8, none)
set_option maxRecDepth 100000 in
theorem mv_X7_carryOut : MV mX7_carryOut 4 := ⟨ws_t 6 rfl rfl, ws_t 724 rfl rfl, ws_t 722 rfl rfl, ws_t 723 rfl rfl, ⟨by decide, by decide, by decide +kernel⟩⟩
abbrev mX7_put : MD := (yX7_put, cX7_put, 4, some .boolean)
set_option maxRecDepth 100000 in
theorem mv_X7_put : MV mX7_put 3 := ⟨ws_t 6 rfl rfl, ws_t 709 rfl rfl, ws_t 708 rfl rfl, ws_p 18 rfl rfl, ⟨by decide, by decide, by decide +kernel⟩⟩
abbrev mX7_read : MD := (yX7_read, cX7_read, 3, some .boolean)
set_option maxRecDepth 100000 in
theorem mv_X7_read : MV mX7_read 2 := ⟨ws_t 6 rfl rfl, ws_t 689 rfl rfl, ws_t 687 rfl rfl, ws_t 688 rfl rfl, ⟨by decide, by decide, by decide +kernel⟩⟩
abbrev mX7_readAgain : MD := (yX7_readAgain, cX7_readAgain, 6, some .boolean)
set_option maxRecDepth 100000 in
theorem mv_X7_readAgain : MV mX7_readAgain 3 := ⟨ws_t 6 rfl rfl, ws_t 713 rfl rfl, ws_t 712 rfl rfl, ws_p 19 rfl rfl, ⟨by decide, by decide, by decide +kernel⟩⟩
abbrev mX7_readPair : MD := (yX7_readPair, cX7_readPair, 7, some .boolean)
set_option maxRecDepth 100000 in
theorem mv_X7_readPair : MV mX7_readPair 4 := ⟨ws_t 6 rfl rfl, ws_t 704 rfl rfl, ws_t 703 rfl rfl, ws_p 17 rfl rfl, ⟨by decide, by decide, by decide +kernel⟩⟩
abbrev mX7_readStep : MD := (yX7_readStep, cX7_readStep, 6, some .boolean)
set_option maxRecDepth 100000 in
theorem mv_X7_readStep : MV mX7_readStep 3 := ⟨ws_t 6 rfl rfl, ws_t 698 rfl rfl, ws_t 697 rfl rfl, ws_p 16 rfl rfl, ⟨by decide, by decide, by decide +kernel⟩⟩
abbrev mX7_readSteps : MD := (yX7_readSteps, cX7_readSteps, 6, some .boolean)
set_option maxRecDepth 100000 in
theorem mv_X7_readSteps : MV mX7_readSteps 3 := ⟨ws_t 6 rfl rfl, ws_t 693 rfl rfl, ws_t 692 rfl rfl, ws_p 15 rfl rfl, ⟨by decide, by decide, by decide +kernel⟩⟩
abbrev mX8_init : MD := (yX8_init, cX8_init, 1, none)
abbrev mX8_append : MD := (yX8_append, cX8_append, 3, none)
set_option maxRecDepth 100000 in
theorem mv_X8_append : MV mX8_append 1 := ⟨ws_t 2 rfl rfl, ws_t 382 rfl rfl, ws_t 380 rfl rfl, ws_t 381 rfl rfl, ⟨by decide, by decide, by decide +kernel⟩⟩
abbrev mX8_fail : MD := (yX8_fail, cX8_fail, 3, some .boolean)
set_option maxRecDepth 100000 in
theorem mv_X8_fail : MV mX8_fail 2 := ⟨ws_t 2 rfl rfl, ws_t 587 rfl rfl, ws_t 585 rfl rfl, ws_t 586 rfl rfl, ⟨by decide, by decide, by decide +kernel⟩⟩
abbrev mX8_failHere : MD := (yX8_failHere, cX8_failHere, 2, some .boolean)
set_option maxRecDepth 100000 in
theorem mv_X8_failHere : MV mX8_failHere 1 := ⟨ws_t 2 rfl rfl, ws_t 652 rfl rfl, ws_t 650 rfl rfl, ws_t 651 rfl rfl, ⟨by decide, by decide, by decide +kernel⟩⟩
abbrev mX8_hasRoom : MD := (yX8_hasRoom, cX8_hasRoom, 1, some .boolean)
set_option maxRecDepth 100000 in
theorem mv_X8_hasRoom : MV mX8_hasRoom 0 := ⟨ws_t 2 rfl rfl, ws_t 378 rfl rfl, ws_t 376 rfl rfl, ws_t 377 rfl rfl, ⟨by decide, by decide, by decide +kernel⟩⟩
abbrev mX8_isDigit : MD := (yX8_isDigit, cX8_isDigit, 1, some .boolean)
set_option maxRecDepth 100000 in
theorem ms_X8_isDigit : MS mX8_isDigit 1 := ⟨ws_t 2 rfl rfl, ws_t 606 rfl rfl, ws_t 605 rfl rfl, ⟨by decide, by decide, by decide +kernel⟩⟩
abbrev mX8_isWord : MD := (yX8_isWord, cX8_isWord, 5, some .boolean)
set_option maxRecDepth 100000 in
theorem mv_X8_isWord : MV mX8_isWord 3 := ⟨ws_t 2 rfl rfl, ws_t 583 rfl rfl, ws_t 582 rfl rfl, ws_p 5 rfl rfl, ⟨by decide, by decide, by decide +kernel⟩⟩
abbrev mX8_next : MD := (yX8_next, cX8_next, 1, some .int)
set_option maxRecDepth 100000 in
theorem mv_X8_next : MV mX8_next 0 := ⟨ws_t 2 rfl rfl, ws_t 525 rfl rfl, ws_t 523 rfl rfl, ws_t 524 rfl rfl, ⟨by decide, by decide, by decide +kernel⟩⟩
abbrev mX8_nothingMore : MD := (yX8_nothingMore, cX8_nothingMore, 1, some .boolean)
set_option maxRecDepth 100000 in
theorem mv_X8_nothingMore : MV mX8_nothingMore 0 := ⟨ws_t 2 rfl rfl, ws_t 670 rfl rfl, ws_t 668 rfl rfl, ws_t 669 rfl rfl, ⟨by decide, by decide, by decide +kernel⟩⟩
abbrev mX8_number : MD := (yX8_number, cX8_number, 4, some .int)
set_option maxRecDepth 100000 in
theorem mv_X8_number : MV mX8_number 2 := ⟨ws_t 2 rfl rfl, ws_t 603 rfl rfl, ws_t 601 rfl rfl, ws_t 602 rfl rfl, ⟨by decide, by decide, by decide +kernel⟩⟩
abbrev mX8_open : MD := (yX8_open, cX8_open, 2, none)
set_option maxRecDepth 100000 in
theorem mv_X8_open : MV mX8_open 1 := ⟨ws_t 2 rfl rfl, ws_t 512 rfl rfl, ws_t 510 rfl rfl, ws_t 511 rfl rfl, ⟨by decide, by decide, by decide +kernel⟩⟩
abbrev mX8_take : MD := (yX8_take, cX8_take, 2, some .boolean)
set_option maxRecDepth 100000 in
theorem mv_X8_take : MV mX8_take 1 := ⟨ws_t 2 rfl rfl, ws_t 619 rfl rfl, ws_t 617 rfl rfl, ws_t 618 rfl rfl, ⟨by decide, by decide, by decide +kernel⟩⟩
abbrev mX8_word : MD := (yX8_word, cX8_word, 5, some .int)
set_option maxRecDepth 100000 in
theorem mv_X8_word : MV mX8_word 1 := ⟨ws_t 2 rfl rfl, ws_t 530 rfl rfl, ws_t 528 rfl rfl, ws_t 529 rfl rfl, ⟨by decide, by decide, by decide +kernel⟩⟩
abbrev mX10_init : MD := (yX10_init, cX10_init, 1, none)
abbrev mX10_asleepAll : MD := (yX10_asleepAll, cX10_asleepAll, 3, some .int)
set_option maxRecDepth 100000 in
theorem mv_X10_asleepAll : MV mX10_asleepAll 0 := ⟨ws_t 12 rfl rfl, ws_t 1575 rfl rfl, ws_t 1574 rfl rfl, ws_p 82 rfl rfl, ⟨by decide, by decide, by decide +kernel⟩⟩
abbrev mX10_begins : MD := (yX10_begins, cX10_begins, 2, none)
set_option maxRecDepth 100000 in
theorem mv_X10_begins : MV mX10_begins 1 := ⟨ws_t 12 rfl rfl, ws_t 1349 rfl rfl, ws_t 1348 rfl rfl, ws_p 41 rfl rfl, ⟨by decide, by decide, by decide +kernel⟩⟩
abbrev mX10_best : MD := (yX10_best, cX10_best, 7, some .int)
set_option maxRecDepth 100000 in
theorem mv_X10_best : MV mX10_best 2 := ⟨ws_t 12 rfl rfl, ws_t 1650 rfl rfl, ws_t 1648 rfl rfl, ws_t 1649 rfl rfl, ⟨by decide, by decide, by decide +kernel⟩⟩
abbrev mX10_book : MD := (yX10_book, cX10_book, 6, some .int)
set_option maxRecDepth 100000 in
theorem mv_X10_book : MV mX10_book 1 := ⟨ws_t 12 rfl rfl, ws_t 1563 rfl rfl, ws_t 1561 rfl rfl, ws_t 1562 rfl rfl, ⟨by decide, by decide, by decide +kernel⟩⟩
abbrev mX10_both : MD := (yX10_both, cX10_both, 3, some .int)
set_option maxRecDepth 100000 in
theorem ms_X10_both : MS mX10_both 3 := ⟨ws_t 12 rfl rfl, ws_t 1535 rfl rfl, ws_t 1534 rfl rfl, ⟨by decide, by decide, by decide +kernel⟩⟩
abbrev mX10_changes : MD := (yX10_changes, cX10_changes, 2, some .boolean)
set_option maxRecDepth 100000 in
theorem mv_X10_changes : MV mX10_changes 1 := ⟨ws_t 12 rfl rfl, ws_t 1607 rfl rfl, ws_t 1605 rfl rfl, ws_t 1606 rfl rfl, ⟨by decide, by decide, by decide +kernel⟩⟩
abbrev mX10_clears : MD := (yX10_clears, cX10_clears, 2, none)
set_option maxRecDepth 100000 in
theorem mv_X10_clears : MV mX10_clears 0 := ⟨ws_t 12 rfl rfl, ws_t 1161 rfl rfl, ws_t 1160 rfl rfl, ws_p 37 rfl rfl, ⟨by decide, by decide, by decide +kernel⟩⟩
abbrev mX10_clock : MD := (yX10_clock, cX10_clock, 2, some .int)
set_option maxRecDepth 100000 in
theorem mv_X10_clock : MV mX10_clock 1 := ⟨ws_t 12 rfl rfl, ws_t 1603 rfl rfl, ws_t 1601 rfl rfl, ws_t 1602 rfl rfl, ⟨by decide, by decide, by decide +kernel⟩⟩
abbrev mX10_copies : MD := (yX10_copies, cX10_copies, 5, none)
set_option maxRecDepth 100000 in
theorem mv_X10_copies : MV mX10_copies 3 := ⟨ws_t 12 rfl rfl, ws_t 1169 rfl rfl, ws_t 1168 rfl rfl, ws_p 39 rfl rfl, ⟨by decide, by decide, by decide +kernel⟩⟩
abbrev mX10_count : MD := (yX10_count, cX10_count, 2, some .int)
set_option maxRecDepth 100000 in
theorem mv_X10_count : MV mX10_count 1 := ⟨ws_t 12 rfl rfl, ws_t 1788 rfl rfl, ws_t 1786 rfl rfl, ws_t 1787 rfl rfl, ⟨by decide, by decide, by decide +kernel⟩⟩
abbrev mX10_doctor : MD := (yX10_doctor, cX10_doctor, 4, some .int)
set_option maxRecDepth 100000 in
theorem mv_X10_doctor : MV mX10_doctor 2 := ⟨ws_t 12 rfl rfl, ws_t 1732 rfl rfl, ws_t 1730 rfl rfl, ws_t 1731 rfl rfl, ⟨by decide, by decide, by decide +kernel⟩⟩
abbrev mX10_draws : MD := (yX10_draws, cX10_draws, 1, some .int)
set_option maxRecDepth 100000 in
theorem mv_X10_draws : MV mX10_draws 0 := ⟨ws_t 12 rfl rfl, ws_t 1755 rfl rfl, ws_t 1754 rfl rfl, ws_p 97 rfl rfl, ⟨by decide, by decide, by decide +kernel⟩⟩
abbrev mX10_drives : MD := (yX10_drives, cX10_drives, 7, none)
set_option maxRecDepth 100000 in
theorem mv_X10_drives : MV mX10_drives 4 := ⟨ws_t 12 rfl rfl, ws_t 1751 rfl rfl, ws_t 1750 rfl rfl, ws_p 96 rfl rfl, ⟨by decide, by decide, by decide +kernel⟩⟩
abbrev mX10_emit : MD := (yX10_emit, cX10_emit, 3, none)
set_option maxRecDepth 100000 in
theorem mv_X10_emit : MV mX10_emit 2 := ⟨ws_t 12 rfl rfl, ws_t 1450 rfl rfl, ws_t 1449 rfl rfl, ws_p 59 rfl rfl, ⟨by decide, by decide, by decide +kernel⟩⟩
abbrev mX10_factHere : MD := (yX10_factHere, cX10_factHere, 2, some .int)
set_option maxRecDepth 100000 in
theorem mv_X10_factHere : MV mX10_factHere 0 := ⟨ws_t 12 rfl rfl, ws_t 1460 rfl rfl, ws_t 1459 rfl rfl, ws_p 61 rfl rfl, ⟨by decide, by decide, by decide +kernel⟩⟩
abbrev mX10_fault : MD := (yX10_fault, cX10_fault, 1, some .int)
set_option maxRecDepth 100000 in
theorem mv_X10_fault : MV mX10_fault 0 := ⟨ws_t 12 rfl rfl, ws_t 1337 rfl rfl, ws_t 1335 rfl rfl, ws_t 1336 rfl rfl, ⟨by decide, by decide, by decide +kernel⟩⟩
abbrev mX10_feed : MD := (yX10_feed, cX10_feed, 8, some .int)
set_option maxRecDepth 100000 in
theorem mv_X10_feed : MV mX10_feed 5 := ⟨ws_t 12 rfl rfl, ws_t 1333 rfl rfl, ws_t 1331 rfl rfl, ws_t 1332 rfl rfl, ⟨by decide, by decide, by decide +kernel⟩⟩
abbrev mX10_findFacts : MD := (yX10_findFacts, cX10_findFacts, 4, none)
set_option maxRecDepth 100000 in
theorem mv_X10_findFacts : MV mX10_findFacts 3 := ⟨ws_t 12 rfl rfl, ws_t 1524 rfl rfl, ws_t 1523 rfl rfl, ws_p 73 rfl rfl, ⟨by decide, by decide, by decide +kernel⟩⟩
abbrev mX10_fine : MD := (yX10_fine, cX10_fine, 1, some .boolean)
set_option maxRecDepth 100000 in
theorem mv_X10_fine : MV mX10_fine 0 := ⟨ws_t 12 rfl rfl, ws_t 1353 rfl rfl, ws_t 1352 rfl rfl, ws_p 42 rfl rfl, ⟨by decide, by decide, by decide +kernel⟩⟩
abbrev mX10_fits : MD := (yX10_fits, cX10_fits, 2, some .int)
set_option maxRecDepth 100000 in
theorem mv_X10_fits : MV mX10_fits 1 := ⟨ws_t 12 rfl rfl, ws_t 1694 rfl rfl, ws_t 1692 rfl rfl, ws_t 1693 rfl rfl, ⟨by decide, by decide, by decide +kernel⟩⟩
abbrev mX10_fitsOf : MD := (yX10_fitsOf, cX10_fitsOf, 6, some .int)
set_option maxRecDepth 100000 in
theorem mv_X10_fitsOf : MV mX10_fitsOf 1 := ⟨ws_t 12 rfl rfl, ws_t 1698 rfl rfl, ws_t 1697 rfl rfl, ws_p 92 rfl rfl, ⟨by decide, by decide, by decide +kernel⟩⟩
abbrev mX10_from : MD := (yX10_from, cX10_from, 4, some .int)
set_option maxRecDepth 100000 in
theorem mv_X10_from : MV mX10_from 2 := ⟨ws_t 12 rfl rfl, ws_t 1512 rfl rfl, ws_t 1511 rfl rfl, ws_p 70 rfl rfl, ⟨by decide, by decide, by decide +kernel⟩⟩
abbrev mX10_goes : MD := (yX10_goes, cX10_goes, 4, some .boolean)
set_option maxRecDepth 100000 in
theorem mv_X10_goes : MV mX10_goes 3 := ⟨ws_t 12 rfl rfl, ws_t 1500 rfl rfl, ws_t 1499 rfl rfl, ws_p 67 rfl rfl, ⟨by decide, by decide, by decide +kernel⟩⟩
abbrev mX10_goesOn : MD := (yX10_goesOn, cX10_goesOn, 4, some .int)
set_option maxRecDepth 100000 in
theorem mv_X10_goesOn : MV mX10_goesOn 1 := ⟨ws_t 12 rfl rfl, ws_t 1626 rfl rfl, ws_t 1625 rfl rfl, ws_p 85 rfl rfl, ⟨by decide, by decide, by decide +kernel⟩⟩
abbrev mX10_goesSteps : MD := (yX10_goesSteps, cX10_goesSteps, 6, none)
set_option maxRecDepth 100000 in
theorem mv_X10_goesSteps : MV mX10_goesSteps 2 := ⟨ws_t 12 rfl rfl, ws_t 1496 rfl rfl, ws_t 1495 rfl rfl, ws_p 66 rfl rfl, ⟨by decide, by decide, by decide +kernel⟩⟩
abbrev mX10_head : MD := (yX10_head, cX10_head, 4, some .int)
set_option maxRecDepth 100000 in
theorem mv_X10_head : MV mX10_head 3 := ⟨ws_t 12 rfl rfl, ws_t 1642 rfl rfl, ws_t 1640 rfl rfl, ws_t 1641 rfl rfl, ⟨by decide, by decide, by decide +kernel⟩⟩
abbrev mX10_headOf : MD := (yX10_headOf, cX10_headOf, 5, some .int)
set_option maxRecDepth 100000 in
theorem mv_X10_headOf : MV mX10_headOf 3 := ⟨ws_t 12 rfl rfl, ws_t 1646 rfl rfl, ws_t 1645 rfl rfl, ws_p 87 rfl rfl, ⟨by decide, by decide, by decide +kernel⟩⟩
abbrev mX10_here : MD := (yX10_here, cX10_here, 1, some .int)
set_option maxRecDepth 100000 in
theorem mv_X10_here : MV mX10_here 0 := ⟨ws_t 12 rfl rfl, ws_t 1361 rfl rfl, ws_t 1360 rfl rfl, ws_p 44 rfl rfl, ⟨by decide, by decide, by decide +kernel⟩⟩
abbrev mX10_house : MD := (yX10_house, cX10_house, 5, some .int)
set_option maxRecDepth 100000 in
theorem mv_X10_house : MV mX10_house 1 := ⟨ws_t 12 rfl rfl, ws_t 1341 rfl rfl, ws_t 1339 rfl rfl, ws_t 1340 rfl rfl, ⟨by decide, by decide, by decide +kernel⟩⟩
abbrev mX10_hurry : MD := (yX10_hurry, cX10_hurry, 10, some .int)
set_option maxRecDepth 100000 in
theorem mv_X10_hurry : MV mX10_hurry 5 := ⟨ws_t 12 rfl rfl, ws_t 1654 rfl rfl, ws_t 1652 rfl rfl, ws_t 1653 rfl rfl, ⟨by decide, by decide, by decide +kernel⟩⟩
abbrev mX10_image : MD := (yX10_image, cX10_image, 1, some .int)
set_option maxRecDepth 100000 in
theorem mv_X10_image : MV mX10_image 0 := ⟨ws_t 12 rfl rfl, ws_t 1768 rfl rfl, ws_t 1766 rfl rfl, ws_t 1767 rfl rfl, ⟨by decide, by decide, by decide +kernel⟩⟩
abbrev mX10_inTurns : MD := (yX10_inTurns, cX10_inTurns, 3, some .int)
set_option maxRecDepth 100000 in
theorem mv_X10_inTurns : MV mX10_inTurns 2 := ⟨ws_t 12 rfl rfl, ws_t 1685 rfl rfl, ws_t 1683 rfl rfl, ws_t 1684 rfl rfl, ⟨by decide, by decide, by decide +kernel⟩⟩
abbrev mX10_isAsleep : MD := (yX10_isAsleep, cX10_isAsleep, 2, some .boolean)
set_option maxRecDepth 100000 in
theorem mv_X10_isAsleep : MV mX10_isAsleep 1 := ⟨ws_t 12 rfl rfl, ws_t 1516 rfl rfl, ws_t 1515 rfl rfl, ws_p 71 rfl rfl, ⟨by decide, by decide, by decide +kernel⟩⟩
abbrev mX10_isChanging : MD := (yX10_isChanging, cX10_isChanging, 3, some .boolean)
set_option maxRecDepth 100000 in
theorem mv_X10_isChanging : MV mX10_isChanging 2 := ⟨ws_t 12 rfl rfl, ws_t 1539 rfl rfl, ws_t 1538 rfl rfl, ws_p 76 rfl rfl, ⟨by decide, by decide, by decide +kernel⟩⟩
abbrev mX10_isDigit : MD := (yX10_isDigit, cX10_isDigit, 1, some .boolean)
set_option maxRecDepth 100000 in
theorem ms_X10_isDigit : MS mX10_isDigit 1 := ⟨ws_t 12 rfl rfl, ws_t 1407 rfl rfl, ws_t 1406 rfl rfl, ⟨by decide, by decide, by decide +kernel⟩⟩
abbrev mX10_isFalling : MD := (yX10_isFalling, cX10_isFalling, 1, some .boolean)
set_option maxRecDepth 100000 in
theorem mv_X10_isFalling : MV mX10_isFalling 0 := ⟨ws_t 12 rfl rfl, ws_t 1543 rfl rfl, ws_t 1542 rfl rfl, ws_p 77 rfl rfl, ⟨by decide, by decide, by decide +kernel⟩⟩
abbrev mX10_isFew : MD := (yX10_isFew, cX10_isFew, 1, some .boolean)
set_option maxRecDepth 100000 in
theorem ms_X10_isFew : MS mX10_isFew 1 := ⟨ws_t 12 rfl rfl, ws_t 1657 rfl rfl, ws_t 1656 rfl rfl, ⟨by decide, by decide, by decide +kernel⟩⟩
abbrev mX10_isMany : MD := (yX10_isMany, cX10_isMany, 1, some .boolean)
set_option maxRecDepth 100000 in
theorem ms_X10_isMany : MS mX10_isMany 1 := ⟨ws_t 12 rfl rfl, ws_t 1622 rfl rfl, ws_t 1621 rfl rfl, ⟨by decide, by decide, by decide +kernel⟩⟩
abbrev mX10_isMore : MD := (yX10_isMore, cX10_isMore, 1, some .boolean)
set_option maxRecDepth 100000 in
theorem mv_X10_isMore : MV mX10_isMore 0 := ⟨ws_t 12 rfl rfl, ws_t 1357 rfl rfl, ws_t 1356 rfl rfl, ws_p 43 rfl rfl, ⟨by decide, by decide, by decide +kernel⟩⟩
abbrev mX10_isNight : MD := (yX10_isNight, cX10_isNight, 3, some .boolean)
set_option maxRecDepth 100000 in
theorem ms_X10_isNight : MS mX10_isNight 3 := ⟨ws_t 12 rfl rfl, ws_t 1747 rfl rfl, ws_t 1746 rfl rfl, ⟨by decide, by decide, by decide +kernel⟩⟩
abbrev mX10_isRest : MD := (yX10_isRest, cX10_isRest, 5, some .boolean)
set_option maxRecDepth 100000 in
theorem mv_X10_isRest : MV mX10_isRest 3 := ⟨ws_t 12 rfl rfl, ws_t 1665 rfl rfl, ws_t 1664 rfl rfl, ws_p 89 rfl rfl, ⟨by decide, by decide, by decide +kernel⟩⟩
abbrev mX10_isRow : MD := (yX10_isRow, cX10_isRow, 1, some .boolean)
set_option maxRecDepth 100000 in
theorem ms_X10_isRow : MS mX10_isRow 1 := ⟨ws_t 12 rfl rfl, ws_t 1378 rfl rfl, ws_t 1377 rfl rfl, ⟨by decide, by decide, by decide +kernel⟩⟩
abbrev mX10_isSleeper : MD := (yX10_isSleeper, cX10_isSleeper, 3, some .boolean)
set_option maxRecDepth 100000 in
theorem mv_X10_isSleeper : MV mX10_isSleeper 2 := ⟨ws_t 12 rfl rfl, ws_t 1587 rfl rfl, ws_t 1586 rfl rfl, ws_p 84 rfl rfl, ⟨by decide, by decide, by decide +kernel⟩⟩
abbrev mX10_isSmall : MD := (yX10_isSmall, cX10_isSmall, 1, some .boolean)
set_option maxRecDepth 100000 in
theorem ms_X10_isSmall : MS mX10_isSmall 1 := ⟨ws_t 12 rfl rfl, ws_t 1371 rfl rfl, ws_t 1370 rfl rfl, ⟨by decide, by decide, by decide +kernel⟩⟩
abbrev mX10_isTold : MD := (yX10_isTold, cX10_isTold, 3, some .boolean)
set_option maxRecDepth 100000 in
theorem mv_X10_isTold : MV mX10_isTold 1 := ⟨ws_t 12 rfl rfl, ws_t 1710 rfl rfl, ws_t 1709 rfl rfl, ws_p 94 rfl rfl, ⟨by decide, by decide, by decide +kernel⟩⟩
abbrev mX10_keepsAll : MD := (yX10_keepsAll, cX10_keepsAll, 4, none)
set_option maxRecDepth 100000 in
theorem mv_X10_keepsAll : MV mX10_keepsAll 2 := ⟨ws_t 12 rfl rfl, ws_t 1772 rfl rfl, ws_t 1771 rfl rfl, ws_p 99 rfl rfl, ⟨by decide, by decide, by decide +kernel⟩⟩
abbrev mX10_keepsRow : MD := (yX10_keepsRow, cX10_keepsRow, 6, some .int)
set_option maxRecDepth 100000 in
theorem mv_X10_keepsRow : MV mX10_keepsRow 4 := ⟨ws_t 12 rfl rfl, ws_t 1776 rfl rfl, ws_t 1775 rfl rfl, ws_p 100 rfl rfl, ⟨by decide, by decide, by decide +kernel⟩⟩
abbrev mX10_law : MD := (yX10_law, cX10_law, 5, some .int)
set_option maxRecDepth 100000 in
theorem mv_X10_law : MV mX10_law 2 := ⟨ws_t 12 rfl rfl, ws_t 1427 rfl rfl, ws_t 1425 rfl rfl, ws_t 1426 rfl rfl, ⟨by decide, by decide, by decide +kernel⟩⟩
abbrev mX10_least : MD := (yX10_least, cX10_least, 11, some .long)
set_option maxRecDepth 100000 in
theorem ms_X10_least : MS mX10_least 3 := ⟨ws_t 12 rfl rfl, ws_t 1728 rfl rfl, ws_t 1727 rfl rfl, ⟨by decide, by decide, by decide +kernel⟩⟩
abbrev mX10_lies : MD := (yX10_lies, cX10_lies, 3, none)
set_option maxRecDepth 100000 in
theorem mv_X10_lies : MV mX10_lies 2 := ⟨ws_t 12 rfl rfl, ws_t 1547 rfl rfl, ws_t 1546 rfl rfl, ws_p 78 rfl rfl, ⟨by decide, by decide, by decide +kernel⟩⟩
abbrev mX10_listen : MD := (yX10_listen, cX10_listen, 8, some .int)
set_option maxRecDepth 100000 in
theorem mv_X10_listen : MV mX10_listen 2 := ⟨ws_t 12 rfl rfl, ws_t 1706 rfl rfl, ws_t 1704 rfl rfl, ws_t 1705 rfl rfl, ⟨by decide, by decide, by decide +kernel⟩⟩
abbrev mX10_loud : MD := (yX10_loud, cX10_loud, 2, some .int)
set_option maxRecDepth 100000 in
theorem mv_X10_loud : MV mX10_loud 1 := ⟨ws_t 12 rfl rfl, ws_t 1595 rfl rfl, ws_t 1593 rfl rfl, ws_t 1594 rfl rfl, ⟨by decide, by decide, by decide +kernel⟩⟩
abbrev mX10_loudIn : MD := (yX10_loudIn, cX10_loudIn, 4, some .int)
set_option maxRecDepth 100000 in
theorem mv_X10_loudIn : MV mX10_loudIn 3 := ⟨ws_t 12 rfl rfl, ws_t 1702 rfl rfl, ws_t 1701 rfl rfl, ws_p 93 rfl rfl, ⟨by decide, by decide, by decide +kernel⟩⟩
abbrev mX10_loudNow : MD := (yX10_loudNow, cX10_loudNow, 2, some .int)
set_option maxRecDepth 100000 in
theorem mv_X10_loudNow : MV mX10_loudNow 0 := ⟨ws_t 12 rfl rfl, ws_t 1528 rfl rfl, ws_t 1527 rfl rfl, ws_p 74 rfl rfl, ⟨by decide, by decide, by decide +kernel⟩⟩
abbrev mX10_loudOf : MD := (yX10_loudOf, cX10_loudOf, 2, some .int)
set_option maxRecDepth 100000 in
theorem mv_X10_loudOf : MV mX10_loudOf 1 := ⟨ws_t 12 rfl rfl, ws_t 1520 rfl rfl, ws_t 1519 rfl rfl, ws_p 72 rfl rfl, ⟨by decide, by decide, by decide +kernel⟩⟩
abbrev mX10_loudest : MD := (yX10_loudest, cX10_loudest, 5, some .int)
set_option maxRecDepth 100000 in
theorem mv_X10_loudest : MV mX10_loudest 1 := ⟨ws_t 12 rfl rfl, ws_t 1611 rfl rfl, ws_t 1609 rfl rfl, ws_t 1610 rfl rfl, ⟨by decide, by decide, by decide +kernel⟩⟩
abbrev mX10_may : MD := (yX10_may, cX10_may, 4, some .boolean)
set_option maxRecDepth 100000 in
theorem mv_X10_may : MV mX10_may 3 := ⟨ws_t 12 rfl rfl, ws_t 1345 rfl rfl, ws_t 1344 rfl rfl, ws_p 40 rfl rfl, ⟨by decide, by decide, by decide +kernel⟩⟩
abbrev mX10_meanOf : MD := (yX10_meanOf, cX10_meanOf, 3, some .long)
set_option maxRecDepth 100000 in
theorem ms_X10_meanOf : MS mX10_meanOf 3 := ⟨ws_t 12 rfl rfl, ws_t 1721 rfl rfl, ws_t 1720 rfl rfl, ⟨by decide, by decide, by decide +kernel⟩⟩
abbrev mX10_mine : MD := (yX10_mine, cX10_mine, 4, some .int)
set_option maxRecDepth 100000 in
theorem mv_X10_mine : MV mX10_mine 3 := ⟨ws_t 12 rfl rfl, ws_t 1669 rfl rfl, ws_t 1668 rfl rfl, ws_p 90 rfl rfl, ⟨by decide, by decide, by decide +kernel⟩⟩
abbrev mX10_minute : MD := (yX10_minute, cX10_minute, 3, some .boolean)
set_option maxRecDepth 100000 in
theorem mv_X10_minute : MV mX10_minute 0 := ⟨ws_t 12 rfl rfl, ws_t 1504 rfl rfl, ws_t 1503 rfl rfl, ws_p 68 rfl rfl, ⟨by decide, by decide, by decide +kernel⟩⟩
abbrev mX10_most : MD := (yX10_most, cX10_most, 5, some .int)
set_option maxRecDepth 100000 in
theorem mv_X10_most : MV mX10_most 1 := ⟨ws_t 12 rfl rfl, ws_t 1638 rfl rfl, ws_t 1636 rfl rfl, ws_t 1637 rfl rfl, ⟨by decide, by decide, by decide +kernel⟩⟩
abbrev mX10_nights : MD := (yX10_nights, cX10_nights, 6, some .int)
set_option maxRecDepth 100000 in
theorem mv_X10_nights : MV mX10_nights 5 := ⟨ws_t 12 rfl rfl, ws_t 1744 rfl rfl, ws_t 1742 rfl rfl, ws_t 1743 rfl rfl, ⟨by decide, by decide, by decide +kernel⟩⟩
abbrev mX10_noise : MD := (yX10_noise, cX10_noise, 2, some .int)
set_option maxRecDepth 100000 in
theorem mv_X10_noise : MV mX10_noise 1 := ⟨ws_t 12 rfl rfl, ws_t 1591 rfl rfl, ws_t 1589 rfl rfl, ws_t 1590 rfl rfl, ⟨by decide, by decide, by decide +kernel⟩⟩
abbrev mX10_noiseOf : MD := (yX10_noiseOf, cX10_noiseOf, 4, some .int)
set_option maxRecDepth 100000 in
theorem mv_X10_noiseOf : MV mX10_noiseOf 1 := ⟨ws_t 12 rfl rfl, ws_t 1508 rfl rfl, ws_t 1507 rfl rfl, ws_p 69 rfl rfl, ⟨by decide, by decide, by decide +kernel⟩⟩
abbrev mX10_nudges : MD := (yX10_nudges, cX10_nudges, 9, some .int)
set_option maxRecDepth 100000 in
theorem mv_X10_nudges : MV mX10_nudges 4 := ⟨ws_t 12 rfl rfl, ws_t 1677 rfl rfl, ws_t 1675 rfl rfl, ws_t 1676 rfl rfl, ⟨by decide, by decide, by decide +kernel⟩⟩
abbrev mX10_nudgesNow : MD := (yX10_nudgesNow, cX10_nudgesNow, 3, some .boolean)
set_option maxRecDepth 100000 in
theorem mv_X10_nudgesNow : MV mX10_nudgesNow 2 := ⟨ws_t 12 rfl rfl, ws_t 1559 rfl rfl, ws_t 1558 rfl rfl, ws_p 81 rfl rfl, ⟨by decide, by decide, by decide +kernel⟩⟩
abbrev mX10_of : MD := (yX10_of, cX10_of, 3, some .int)
set_option maxRecDepth 100000 in
theorem ms_X10_of : MS mX10_of 1 := ⟨ws_t 12 rfl rfl, ws_t 1382 rfl rfl, ws_t 1381 rfl rfl, ⟨by decide, by decide, by decide +kernel⟩⟩
abbrev mX10_opensOne : MD := (yX10_opensOne, cX10_opensOne, 2, none)
set_option maxRecDepth 100000 in
theorem mv_X10_opensOne : MV mX10_opensOne 1 := ⟨ws_t 12 rfl rfl, ws_t 1446 rfl rfl, ws_t 1445 rfl rfl, ws_p 58 rfl rfl, ⟨by decide, by decide, by decide +kernel⟩⟩
abbrev mX10_pass : MD := (yX10_pass, cX10_pass, 1, none)
set_option maxRecDepth 100000 in
theorem mv_X10_pass : MV mX10_pass 0 := ⟨ws_t 12 rfl rfl, ws_t 1396 rfl rfl, ws_t 1395 rfl rfl, ws_p 48 rfl rfl, ⟨by decide, by decide, by decide +kernel⟩⟩
abbrev mX10_pauses : MD := (yX10_pauses, cX10_pauses, 5, some .long)
set_option maxRecDepth 100000 in
theorem mv_X10_pauses : MV mX10_pauses 4 := ⟨ws_t 12 rfl rfl, ws_t 1718 rfl rfl, ws_t 1716 rfl rfl, ws_t 1717 rfl rfl, ⟨by decide, by decide, by decide +kernel⟩⟩
abbrev mX10_plugs : MD := (yX10_plugs, cX10_plugs, 5, some .int)
set_option maxRecDepth 100000 in
theorem mv_X10_plugs : MV mX10_plugs 3 := ⟨ws_t 12 rfl rfl, ws_t 1740 rfl rfl, ws_t 1738 rfl rfl, ws_t 1739 rfl rfl, ⟨by decide, by decide, by decide +kernel⟩⟩
abbrev mX10_power : MD := (yX10_power, cX10_power, 6, some .long)
set_option maxRecDepth 100000 in
theorem ms_X10_power : MS mX10_power 2 := ⟨ws_t 12 rfl rfl, ws_t 1724 rfl rfl, ws_t 1723 rfl rfl, ⟨by decide, by decide, by decide +kernel⟩⟩
abbrev mX10_readNumber : MD := (yX10_readNumber, cX10_readNumber, 6, some .int)
set_option maxRecDepth 100000 in
theorem mv_X10_readNumber : MV mX10_readNumber 2 := ⟨ws_t 12 rfl rfl, ws_t 1404 rfl rfl, ws_t 1403 rfl rfl, ws_p 50 rfl rfl, ⟨by decide, by decide, by decide +kernel⟩⟩
abbrev mX10_readOf : MD := (yX10_readOf, cX10_readOf, 5, none)
set_option maxRecDepth 100000 in
theorem mv_X10_readOf : MV mX10_readOf 2 := ⟨ws_t 12 rfl rfl, ws_t 1415 rfl rfl, ws_t 1414 rfl rfl, ws_p 52 rfl rfl, ⟨by decide, by decide, by decide +kernel⟩⟩
abbrev mX10_readOne : MD := (yX10_readOne, cX10_readOne, 1, some .int)
set_option maxRecDepth 100000 in
theorem mv_X10_readOne : MV mX10_readOne 0 := ⟨ws_t 12 rfl rfl, ws_t 1480 rfl rfl, ws_t 1479 rfl rfl, ws_p 63 rfl rfl, ⟨by decide, by decide, by decide +kernel⟩⟩
abbrev mX10_readProduct : MD := (yX10_readProduct, cX10_readProduct, 2, none)
set_option maxRecDepth 100000 in
theorem mv_X10_readProduct : MV mX10_readProduct 0 := ⟨ws_t 12 rfl rfl, ws_t 1438 rfl rfl, ws_t 1437 rfl rfl, ws_p 56 rfl rfl, ⟨by decide, by decide, by decide +kernel⟩⟩
abbrev mX10_readRow : MD := (yX10_readRow, cX10_readRow, 4, none)
set_option maxRecDepth 100000 in
theorem mv_X10_readRow : MV mX10_readRow 1 := ⟨ws_t 12 rfl rfl, ws_t 1411 rfl rfl, ws_t 1410 rfl rfl, ws_p 51 rfl rfl, ⟨by decide, by decide, by decide +kernel⟩⟩
abbrev mX10_readSleeper : MD := (yX10_readSleeper, cX10_readSleeper, 3, none)
set_option maxRecDepth 100000 in
theorem mv_X10_readSleeper : MV mX10_readSleeper 0 := ⟨ws_t 12 rfl rfl, ws_t 1400 rfl rfl, ws_t 1399 rfl rfl, ws_p 49 rfl rfl, ⟨by decide, by decide, by decide +kernel⟩⟩
abbrev mX10_readStep : MD := (yX10_readStep, cX10_readStep, 4, none)
set_option maxRecDepth 100000 in
theorem mv_X10_readStep : MV mX10_readStep 0 := ⟨ws_t 12 rfl rfl, ws_t 1475 rfl rfl, ws_t 1474 rfl rfl, ws_p 62 rfl rfl, ⟨by decide, by decide, by decide +kernel⟩⟩
abbrev mX10_readSum : MD := (yX10_readSum, cX10_readSum, 2, none)
set_option maxRecDepth 100000 in
theorem mv_X10_readSum : MV mX10_readSum 0 := ⟨ws_t 12 rfl rfl, ws_t 1434 rfl rfl, ws_t 1433 rfl rfl, ws_p 55 rfl rfl, ⟨by decide, by decide, by decide +kernel⟩⟩
abbrev mX10_readTwo : MD := (yX10_readTwo, cX10_readTwo, 3, none)
set_option maxRecDepth 100000 in
theorem mv_X10_readTwo : MV mX10_readTwo 2 := ⟨ws_t 12 rfl rfl, ws_t 1455 rfl rfl, ws_t 1454 rfl rfl, ws_p 60 rfl rfl, ⟨by decide, by decide, by decide +kernel⟩⟩
abbrev mX10_readUnit : MD := (yX10_readUnit, cX10_readUnit, 2, none)
set_option maxRecDepth 100000 in
theorem mv_X10_readUnit : MV mX10_readUnit 0 := ⟨ws_t 12 rfl rfl, ws_t 1442 rfl rfl, ws_t 1441 rfl rfl, ws_p 57 rfl rfl, ⟨by decide, by decide, by decide +kernel⟩⟩
abbrev mX10_reads : MD := (yX10_reads, cX10_reads, 6, some .int)
set_option maxRecDepth 100000 in
theorem mv_X10_reads : MV mX10_reads 5 := ⟨ws_t 12 rfl rfl, ws_t 1673 rfl rfl, ws_t 1671 rfl rfl, ws_t 1672 rfl rfl, ⟨by decide, by decide, by decide +kernel⟩⟩
abbrev mX10_readsFor : MD := (yX10_readsFor, cX10_readsFor, 6, none)
set_option maxRecDepth 100000 in
theorem mv_X10_readsFor : MV mX10_readsFor 5 := ⟨ws_t 12 rfl rfl, ws_t 1661 rfl rfl, ws_t 1660 rfl rfl, ws_p 88 rfl rfl, ⟨by decide, by decide, by decide +kernel⟩⟩
abbrev mX10_restore : MD := (yX10_restore, cX10_restore, 1, some .int)
set_option maxRecDepth 100000 in
theorem mv_X10_restore : MV mX10_restore 0 := ⟨ws_t 12 rfl rfl, ws_t 1780 rfl rfl, ws_t 1778 rfl rfl, ws_t 1779 rfl rfl, ⟨by decide, by decide, by decide +kernel⟩⟩
abbrev mX10_result : MD := (yX10_result, cX10_result, 2, some .int)
set_option maxRecDepth 100000 in
theorem mv_X10_result : MV mX10_result 1 := ⟨ws_t 12 rfl rfl, ws_t 1423 rfl rfl, ws_t 1422 rfl rfl, ws_p 54 rfl rfl, ⟨by decide, by decide, by decide +kernel⟩⟩
abbrev mX10_rooms : MD := (yX10_rooms, cX10_rooms, 8, some .int)
set_option maxRecDepth 100000 in
theorem mv_X10_rooms : MV mX10_rooms 2 := ⟨ws_t 12 rfl rfl, ws_t 1681 rfl rfl, ws_t 1679 rfl rfl, ws_t 1680 rfl rfl, ⟨by decide, by decide, by decide +kernel⟩⟩
abbrev mX10_sets : MD := (yX10_sets, cX10_sets, 2, none)
set_option maxRecDepth 100000 in
theorem mv_X10_sets : MV mX10_sets 0 := ⟨ws_t 12 rfl rfl, ws_t 1165 rfl rfl, ws_t 1164 rfl rfl, ws_p 38 rfl rfl, ⟨by decide, by decide, by decide +kernel⟩⟩
abbrev mX10_sign : MD := (yX10_sign, cX10_sign, 2, none)
set_option maxRecDepth 100000 in
theorem mv_X10_sign : MV mX10_sign 1 := ⟨ws_t 12 rfl rfl, ws_t 1419 rfl rfl, ws_t 1418 rfl rfl, ws_p 53 rfl rfl, ⟨by decide, by decide, by decide +kernel⟩⟩
abbrev mX10_sleeper : MD := (yX10_sleeper, cX10_sleeper, 4, some .int)
set_option maxRecDepth 100000 in
theorem mv_X10_sleeper : MV mX10_sleeper 2 := ⟨ws_t 12 rfl rfl, ws_t 1583 rfl rfl, ws_t 1581 rfl rfl, ws_t 1582 rfl rfl, ⟨by decide, by decide, by decide +kernel⟩⟩
abbrev mX10_sleeps : MD := (yX10_sleeps, cX10_sleeps, 3, some .int)
set_option maxRecDepth 100000 in
theorem mv_X10_sleeps : MV mX10_sleeps 2 := ⟨ws_t 12 rfl rfl, ws_t 1630 rfl rfl, ws_t 1628 rfl rfl, ws_t 1629 rfl rfl, ⟨by decide, by decide, by decide +kernel⟩⟩
abbrev mX10_sleepsIn : MD := (yX10_sleepsIn, cX10_sleepsIn, 4, some .int)
set_option maxRecDepth 100000 in
theorem mv_X10_sleepsIn : MV mX10_sleepsIn 2 := ⟨ws_t 12 rfl rfl, ws_t 1634 rfl rfl, ws_t 1633 rfl rfl, ws_p 86 rfl rfl, ⟨by decide, by decide, by decide +kernel⟩⟩
abbrev mX10_sleepsOn : MD := (yX10_sleepsOn, cX10_sleepsOn, 2, none)
set_option maxRecDepth 100000 in
theorem mv_X10_sleepsOn : MV mX10_sleepsOn 1 := ⟨ws_t 12 rfl rfl, ws_t 1555 rfl rfl, ws_t 1554 rfl rfl, ws_p 80 rfl rfl, ⟨by decide, by decide, by decide +kernel⟩⟩
abbrev mX10_slept : MD := (yX10_slept, cX10_slept, 2, some .int)
set_option maxRecDepth 100000 in
theorem mv_X10_slept : MV mX10_slept 1 := ⟨ws_t 12 rfl rfl, ws_t 1619 rfl rfl, ws_t 1617 rfl rfl, ws_t 1618 rfl rfl, ⟨by decide, by decide, by decide +kernel⟩⟩
abbrev mX10_sleptAll : MD := (yX10_sleptAll, cX10_sleptAll, 3, some .int)
set_option maxRecDepth 100000 in
theorem mv_X10_sleptAll : MV mX10_sleptAll 0 := ⟨ws_t 12 rfl rfl, ws_t 1579 rfl rfl, ws_t 1578 rfl rfl, ws_p 83 rfl rfl, ⟨by decide, by decide, by decide +kernel⟩⟩
abbrev mX10_sleptNow : MD := (yX10_sleptNow, cX10_sleptNow, 3, some .int)
set_option maxRecDepth 100000 in
theorem mv_X10_sleptNow : MV mX10_sleptNow 0 := ⟨ws_t 12 rfl rfl, ws_t 1760 rfl rfl, ws_t 1759 rfl rfl, ws_p 98 rfl rfl, ⟨by decide, by decide, by decide +kernel⟩⟩
abbrev mX10_soon : MD := (yX10_soon, cX10_soon, 3, some .int)
set_option maxRecDepth 100000 in
theorem mv_X10_soon : MV mX10_soon 1 := ⟨ws_t 12 rfl rfl, ws_t 1615 rfl rfl, ws_t 1613 rfl rfl, ws_t 1614 rfl rfl, ⟨by decide, by decide, by decide +kernel⟩⟩
abbrev mX10_span : MD := (yX10_span, cX10_span, 12, some .int)
set_option maxRecDepth 100000 in
theorem mv_X10_span : MV mX10_span 6 := ⟨ws_t 12 rfl rfl, ws_t 1764 rfl rfl, ws_t 1762 rfl rfl, ws_t 1763 rfl rfl, ⟨by decide, by decide, by decide +kernel⟩⟩
abbrev mX10_standsHere : MD := (yX10_standsHere, cX10_standsHere, 3, some .boolean)
set_option maxRecDepth 100000 in
theorem mv_X10_standsHere : MV mX10_standsHere 1 := ⟨ws_t 12 rfl rfl, ws_t 1366 rfl rfl, ws_t 1365 rfl rfl, ws_p 45 rfl rfl, ⟨by decide, by decide, by decide +kernel⟩⟩
abbrev mX10_status : MD := (yX10_status, cX10_status, 2, some .int)
set_option maxRecDepth 100000 in
theorem mv_X10_status : MV mX10_status 1 := ⟨ws_t 12 rfl rfl, ws_t 1784 rfl rfl, ws_t 1782 rfl rfl, ws_t 1783 rfl rfl, ⟨by decide, by decide, by decide +kernel⟩⟩
abbrev mX10_take : MD := (yX10_take, cX10_take, 2, none)
set_option maxRecDepth 100000 in
theorem mv_X10_take : MV mX10_take 0 := ⟨ws_t 12 rfl rfl, ws_t 1492 rfl rfl, ws_t 1491 rfl rfl, ws_p 65 rfl rfl, ⟨by decide, by decide, by decide +kernel⟩⟩
abbrev mX10_tellsStep : MD := (yX10_tellsStep, cX10_tellsStep, 4, none)
set_option maxRecDepth 100000 in
theorem mv_X10_tellsStep : MV mX10_tellsStep 3 := ⟨ws_t 12 rfl rfl, ws_t 1484 rfl rfl, ws_t 1483 rfl rfl, ws_p 64 rfl rfl, ⟨by decide, by decide, by decide +kernel⟩⟩
abbrev mX10_thrown : MD := (yX10_thrown, cX10_thrown, 1, some .int)
set_option maxRecDepth 100000 in
theorem mv_X10_thrown : MV mX10_thrown 0 := ⟨ws_t 12 rfl rfl, ws_t 1151 rfl rfl, ws_t 1149 rfl rfl, ws_t 1150 rfl rfl, ⟨by decide, by decide, by decide +kernel⟩⟩
abbrev mX10_told : MD := (yX10_told, cX10_told, 2, some .int)
set_option maxRecDepth 100000 in
theorem mv_X10_told : MV mX10_told 1 := ⟨ws_t 12 rfl rfl, ws_t 1571 rfl rfl, ws_t 1569 rfl rfl, ws_t 1570 rfl rfl, ⟨by decide, by decide, by decide +kernel⟩⟩
abbrev mX10_turnsOn : MD := (yX10_turnsOn, cX10_turnsOn, 9, none)
set_option maxRecDepth 100000 in
theorem mv_X10_turnsOn : MV mX10_turnsOn 5 := ⟨ws_t 12 rfl rfl, ws_t 1690 rfl rfl, ws_t 1689 rfl rfl, ws_p 91 rfl rfl, ⟨by decide, by decide, by decide +kernel⟩⟩
abbrev mX10_undo : MD := (yX10_undo, cX10_undo, 2, some .int)
set_option maxRecDepth 100000 in
theorem mv_X10_undo : MV mX10_undo 0 := ⟨ws_t 12 rfl rfl, ws_t 1567 rfl rfl, ws_t 1565 rfl rfl, ws_t 1566 rfl rfl, ⟨by decide, by decide, by decide +kernel⟩⟩
abbrev mX10_valueOf : MD := (yX10_valueOf, cX10_valueOf, 5, some .int)
set_option maxRecDepth 100000 in
theorem mv_X10_valueOf : MV mX10_valueOf 1 := ⟨ws_t 12 rfl rfl, ws_t 1532 rfl rfl, ws_t 1531 rfl rfl, ws_p 75 rfl rfl, ⟨by decide, by decide, by decide +kernel⟩⟩
abbrev mX10_wakes : MD := (yX10_wakes, cX10_wakes, 2, none)
set_option maxRecDepth 100000 in
theorem mv_X10_wakes : MV mX10_wakes 1 := ⟨ws_t 12 rfl rfl, ws_t 1551 rfl rfl, ws_t 1550 rfl rfl, ws_p 79 rfl rfl, ⟨by decide, by decide, by decide +kernel⟩⟩
abbrev mX10_wall : MD := (yX10_wall, cX10_wall, 7, some .int)
set_option maxRecDepth 100000 in
theorem mv_X10_wall : MV mX10_wall 1 := ⟨ws_t 12 rfl rfl, ws_t 1736 rfl rfl, ws_t 1734 rfl rfl, ws_t 1735 rfl rfl, ⟨by decide, by decide, by decide +kernel⟩⟩
abbrev mX10_within : MD := (yX10_within, cX10_within, 3, some .boolean)
set_option maxRecDepth 100000 in
theorem ms_X10_within : MS mX10_within 3 := ⟨ws_t 12 rfl rfl, ws_t 1430 rfl rfl, ws_t 1429 rfl rfl, ⟨by decide, by decide, by decide +kernel⟩⟩
abbrev mX10_word : MD := (yX10_word, cX10_word, 4, some .int)
set_option maxRecDepth 100000 in
theorem mv_X10_word : MV mX10_word 0 := ⟨ws_t 12 rfl rfl, ws_t 1375 rfl rfl, ws_t 1374 rfl rfl, ws_p 46 rfl rfl, ⟨by decide, by decide, by decide +kernel⟩⟩
abbrev mX10_work : MD := (yX10_work, cX10_work, 4, some .int)
set_option maxRecDepth 100000 in
theorem mv_X10_work : MV mX10_work 1 := ⟨ws_t 12 rfl rfl, ws_t 1471 rfl rfl, ws_t 1469 rfl rfl, ws_t 1470 rfl rfl, ⟨by decide, by decide, by decide +kernel⟩⟩
abbrev mX10_worstAt : MD := (yX10_worstAt, cX10_worstAt, 7, some .int)
set_option maxRecDepth 100000 in
theorem mv_X10_worstAt : MV mX10_worstAt 3 := ⟨ws_t 12 rfl rfl, ws_t 1714 rfl rfl, ws_t 1713 rfl rfl, ws_p 95 rfl rfl, ⟨by decide, by decide, by decide +kernel⟩⟩
abbrev mX10_would : MD := (yX10_would, cX10_would, 7, some .int)
set_option maxRecDepth 100000 in
theorem mv_X10_would : MV mX10_would 5 := ⟨ws_t 12 rfl rfl, ws_t 1599 rfl rfl, ws_t 1597 rfl rfl, ws_t 1598 rfl rfl, ⟨by decide, by decide, by decide +kernel⟩⟩
abbrev mX10_wrong : MD := (yX10_wrong, cX10_wrong, 3, none)
set_option maxRecDepth 100000 in
theorem mv_X10_wrong : MV mX10_wrong 2 := ⟨ws_t 12 rfl rfl, ws_t 1392 rfl rfl, ws_t 1391 rfl rfl, ws_p 47 rfl rfl, ⟨by decide, by decide, by decide +kernel⟩⟩
abbrev mJ6_bitCount_0f7a4 : MD := (yJ6_bitCount_0f7a4, cJ6_bitCount_0f7a4, 1, some .int)
set_option maxRecDepth 100000 in
theorem ms_J6_bitCount_0f7a4 : MS mJ6_bitCount_0f7a4 1 := ⟨ws_t 23 rfl rfl, ws_t 1052 rfl rfl, ws_t 1051 rfl rfl, ⟨by decide, by decide, by decide +kernel⟩⟩
abbrev mJ9_max_7cf53 : MD := (yJ9_max_7cf53, cJ9_max_7cf53, 2, some .int)
set_option maxRecDepth 100000 in
theorem ms_J9_max_7cf53 : MS mJ9_max_7cf53 2 := ⟨ws_t 11 rfl rfl, ws_t 771 rfl rfl, ws_t 770 rfl rfl, ⟨by decide, by decide, by decide +kernel⟩⟩
abbrev mJ9_min_7cf53 : MD := (yJ9_min_7cf53, cJ9_min_7cf53, 2, some .int)
set_option maxRecDepth 100000 in
theorem ms_J9_min_7cf53 : MS mJ9_min_7cf53 2 := ⟨ws_t 11 rfl rfl, ws_t 308 rfl rfl, ws_t 307 rfl rfl, ⟨by decide, by decide, by decide +kernel⟩⟩
abbrev mJ0_charAt_5068e : MD := (yJ0_charAt_5068e, cJ0_charAt_5068e, 2, some .char)
set_option maxRecDepth 100000 in
theorem mv_J0_charAt_5068e : MV mJ0_charAt_5068e 1 := ⟨ws_t 17 rfl rfl, ws_t 545 rfl rfl, ws_t 543 rfl rfl, ws_t 544 rfl rfl, ⟨by decide, by decide, by decide +kernel⟩⟩
abbrev mJ0_checkIndex_df160 : MD := (yJ0_checkIndex_df160, cJ0_checkIndex_df160, 2, none)
set_option maxRecDepth 100000 in
theorem ms_J0_checkIndex_df160 : MS mJ0_checkIndex_df160 2 := ⟨ws_t 17 rfl rfl, ws_t 555 rfl rfl, ws_t 554 rfl rfl, ⟨by decide, by decide, by decide +kernel⟩⟩
abbrev mJ0_coder_7d493 : MD := (yJ0_coder_7d493, cJ0_coder_7d493, 1, some .byte)
set_option maxRecDepth 100000 in
theorem mv_J0_coder_7d493 : MV mJ0_coder_7d493 0 := ⟨ws_t 17 rfl rfl, ws_t 539 rfl rfl, ws_t 537 rfl rfl, ws_t 538 rfl rfl, ⟨by decide, by decide, by decide +kernel⟩⟩
abbrev mJ0_isLatin1_aae02 : MD := (yJ0_isLatin1_aae02, cJ0_isLatin1_aae02, 1, some .boolean)
set_option maxRecDepth 100000 in
theorem mv_J0_isLatin1_aae02 : MV mJ0_isLatin1_aae02 0 := ⟨ws_t 17 rfl rfl, ws_t 549 rfl rfl, ws_t 547 rfl rfl, ws_t 548 rfl rfl, ⟨by decide, by decide, by decide +kernel⟩⟩
abbrev mJ0_length_8abf5 : MD := (yJ0_length_8abf5, cJ0_length_8abf5, 1, some .int)
set_option maxRecDepth 100000 in
theorem mv_J0_length_8abf5 : MV mJ0_length_8abf5 0 := ⟨ws_t 17 rfl rfl, ws_t 535 rfl rfl, ws_t 533 rfl rfl, ws_t 534 rfl rfl, ⟨by decide, by decide, by decide +kernel⟩⟩
abbrev mJ1_charAt_3b067 : MD := (yJ1_charAt_3b067, cJ1_charAt_3b067, 2, some .char)
set_option maxRecDepth 100000 in
theorem ms_J1_charAt_3b067 : MS mJ1_charAt_3b067 2 := ⟨ws_t 18 rfl rfl, ws_t 552 rfl rfl, ws_t 551 rfl rfl, ⟨by decide, by decide, by decide +kernel⟩⟩
abbrev mJ2_charAt_3b067 : MD := (yJ2_charAt_3b067, cJ2_charAt_3b067, 2, some .char)
set_option maxRecDepth 100000 in
theorem ms_J2_charAt_3b067 : MS mJ2_charAt_3b067 2 := ⟨ws_t 20 rfl rfl, ws_t 563 rfl rfl, ws_t 562 rfl rfl, ⟨by decide, by decide, by decide +kernel⟩⟩
abbrev mJ2_checkIndex_2214a : MD := (yJ2_checkIndex_2214a, cJ2_checkIndex_2214a, 2, none)
set_option maxRecDepth 100000 in
theorem ms_J2_checkIndex_2214a : MS mJ2_checkIndex_2214a 2 := ⟨ws_t 20 rfl rfl, ws_t 566 rfl rfl, ws_t 565 rfl rfl, ⟨by decide, by decide, by decide +kernel⟩⟩
abbrev mJ2_getChar_3b067 : MD := (yJ2_getChar_3b067, cJ2_getChar_3b067, 2, some .char)
set_option maxRecDepth 100000 in
theorem ms_J2_getChar_3b067 : MS mJ2_getChar_3b067 2 := ⟨ws_t 20 rfl rfl, ws_t 573 rfl rfl, ws_t 572 rfl rfl, ⟨by decide, by decide, by decide +kernel⟩⟩
abbrev mJ2_length_9d52b : MD := (yJ2_length_9d52b, cJ2_length_9d52b, 1, some .int)
set_option maxRecDepth 100000 in
theorem ms_J2_length_9d52b : MS mJ2_length_9d52b 1 := ⟨ws_t 20 rfl rfl, ws_t 569 rfl rfl, ws_t 568 rfl rfl, ⟨by decide, by decide, by decide +kernel⟩⟩
abbrev mJ3_checkIndex_8e157 : MD := (yJ3_checkIndex_8e157, cJ3_checkIndex_8e157, 3, some .int)
set_option maxRecDepth 100000 in
theorem ms_J3_checkIndex_8e157 : MS mJ3_checkIndex_8e157 3 := ⟨ws_t 19 rfl rfl, ws_t 560 rfl rfl, ws_t 559 rfl rfl, ⟨by decide, by decide, by decide +kernel⟩⟩
set_option maxRecDepth 100000 in
theorem ml_X9_56 : Cond.methodLink RX9 56 yX6_init ∈ WS := ws_t 198 rfl rfl
set_option maxRecDepth 100000 in
theorem ml_X9_101 : Cond.methodLink RX9 101 yX5_takeLoudWithout ∈ WS := ws_t 296 rfl rfl
set_option maxRecDepth 100000 in
theorem ml_X9_104 : Cond.methodLink RX9 104 yX5_takeFallsWithout ∈ WS := ws_t 309 rfl rfl
set_option maxRecDepth 100000 in
theorem ml_X9_107 : Cond.methodLink RX9 107 yX6_begin ∈ WS := ws_t 315 rfl rfl
set_option maxRecDepth 100000 in
theorem ml_X9_110 : Cond.methodLink RX9 110 yX8_hasRoom ∈ WS := ws_t 375 rfl rfl
set_option maxRecDepth 100000 in
theorem ml_X9_114 : Cond.methodLink RX9 114 yX8_append ∈ WS := ws_t 379 rfl rfl
set_option maxRecDepth 100000 in
theorem ml_X9_121 : Cond.methodLink RX9 121 yX9_openText ∈ WS := ws_t 435 rfl rfl
set_option maxRecDepth 100000 in
theorem ml_X9_125 : Cond.methodLink RX9 125 yX3_read ∈ WS := ws_t 514 rfl rfl
set_option maxRecDepth 100000 in
theorem ml_X9_132 : Cond.methodLink RX9 132 yX3_copy ∈ WS := ws_t 620 rfl rfl
set_option maxRecDepth 100000 in
theorem ml_X9_144 : Cond.methodLink RX9 144 yX9_within ∈ WS := ws_t 440 rfl rfl
set_option maxRecDepth 100000 in
theorem ml_X9_148 : Cond.methodLink RX9 148 yX9_require ∈ WS := ws_t 443 rfl rfl
set_option maxRecDepth 100000 in
theorem ml_X9_152 : Cond.methodLink RX9 152 yX5_read ∈ WS := ws_t 632 rfl rfl
set_option maxRecDepth 100000 in
theorem ml_X9_153 : Cond.methodLink RX9 153 yX5_copy ∈ WS := ws_t 671 rfl rfl
set_option maxRecDepth 100000 in
theorem ml_X9_156 : Cond.methodLink RX9 156 yX2_isFull ∈ WS := ws_t 682 rfl rfl
set_option maxRecDepth 100000 in
theorem ml_X9_159 : Cond.methodLink RX9 159 yX7_read ∈ WS := ws_t 686 rfl rfl
set_option maxRecDepth 100000 in
theorem ml_X9_165 : Cond.methodLink RX9 165 yX2_keep ∈ WS := ws_t 717 rfl rfl
set_option maxRecDepth 100000 in
theorem ml_X9_170 : Cond.methodLink RX9 170 yX7_carryOut ∈ WS := ws_t 721 rfl rfl
set_option maxRecDepth 100000 in
theorem ml_X9_180 : Cond.methodLink RX9 180 yX1_read ∈ WS := ws_t 807 rfl rfl
set_option maxRecDepth 100000 in
theorem ml_X9_181 : Cond.methodLink RX9 181 yX1_copy ∈ WS := ws_t 819 rfl rfl
set_option maxRecDepth 100000 in
theorem ml_X9_187 : Cond.methodLink RX9 187 yX2_takeBack ∈ WS := ws_t 391 rfl rfl
set_option maxRecDepth 100000 in
theorem ml_X9_190 : Cond.methodLink RX9 190 yX6_asleepCount ∈ WS := ws_t 830 rfl rfl
set_option maxRecDepth 100000 in
theorem ml_X9_194 : Cond.methodLink RX9 194 yX6_sleptByAll ∈ WS := ws_t 834 rfl rfl
set_option maxRecDepth 100000 in
theorem ml_X9_200 : Cond.methodLink RX9 200 yX9_requireSleeper ∈ WS := ws_t 846 rfl rfl
set_option maxRecDepth 100000 in
theorem ml_X9_212 : Cond.methodLink RX9 212 yJ9_max_7cf53 ∈ WS := ws_t 865 rfl rfl
set_option maxRecDepth 100000 in
theorem ml_X9_218 : Cond.methodLink RX9 218 yX9_asked ∈ WS := ws_t 873 rfl rfl
set_option maxRecDepth 100000 in
theorem ml_X9_222 : Cond.methodLink RX9 222 yX6_hearAll ∈ WS := ws_t 882 rfl rfl
set_option maxRecDepth 100000 in
theorem ml_X9_228 : Cond.methodLink RX9 228 yX6_loudOf ∈ WS := ws_t 890 rfl rfl
set_option maxRecDepth 100000 in
theorem ml_X9_232 : Cond.methodLink RX9 232 yX6_loudBy ∈ WS := ws_t 898 rfl rfl
set_option maxRecDepth 100000 in
theorem ml_X9_236 : Cond.methodLink RX9 236 yX3_strikesIn ∈ WS := ws_t 909 rfl rfl
set_option maxRecDepth 100000 in
theorem ml_X9_239 : Cond.methodLink RX9 239 yX6_isAsleep ∈ WS := ws_t 917 rfl rfl
set_option maxRecDepth 100000 in
theorem ml_X9_243 : Cond.methodLink RX9 243 yX6_passMinute ∈ WS := ws_t 918 rfl rfl
set_option maxRecDepth 100000 in
theorem ml_X9_246 : Cond.methodLink RX9 246 yX6_reaching ∈ WS := ws_t 926 rfl rfl
set_option maxRecDepth 100000 in
theorem ml_X9_249 : Cond.methodLink RX9 249 yX6_sleptInNext ∈ WS := ws_t 941 rfl rfl
set_option maxRecDepth 100000 in
theorem ml_X9_252 : Cond.methodLink RX9 252 yX6_oneSleptInNext ∈ WS := ws_t 953 rfl rfl
set_option maxRecDepth 100000 in
theorem ml_X9_255 : Cond.methodLink RX9 255 yX9_sleptByHead ∈ WS := ws_t 972 rfl rfl
set_option maxRecDepth 100000 in
theorem ml_X9_259 : Cond.methodLink RX9 259 yX9_askedWhileReading ∈ WS := ws_t 994 rfl rfl
set_option maxRecDepth 100000 in
theorem ml_X9_263 : Cond.methodLink RX9 263 yX6_sleptSince ∈ WS := ws_t 998 rfl rfl
set_option maxRecDepth 100000 in
theorem ml_X9_267 : Cond.methodLink RX9 267 yX4_put ∈ WS := ws_t 1002 rfl rfl
set_option maxRecDepth 100000 in
theorem ml_X9_271 : Cond.methodLink RX9 271 yX4_findRests ∈ WS := ws_t 1006 rfl rfl
set_option maxRecDepth 100000 in
theorem ml_X9_283 : Cond.methodLink RX9 283 yX6_sleptWithNudges ∈ WS := ws_t 1028 rfl rfl
set_option maxRecDepth 100000 in
theorem ml_X9_287 : Cond.methodLink RX9 287 yX6_settle ∈ WS := ws_t 1039 rfl rfl
set_option maxRecDepth 100000 in
theorem ml_X9_290 : Cond.methodLink RX9 290 yJ6_bitCount_0f7a4 ∈ WS := ws_t 1050 rfl rfl
set_option maxRecDepth 100000 in
theorem ml_X9_295 : Cond.methodLink RX9 295 yX9_nightsToListen ∈ WS := ws_t 1056 rfl rfl
set_option maxRecDepth 100000 in
theorem ml_X9_298 : Cond.methodLink RX9 298 yX9_fittingSnores ∈ WS := ws_t 1067 rfl rfl
set_option maxRecDepth 100000 in
theorem ml_X9_301 : Cond.methodLink RX9 301 yX1_has ∈ WS := ws_t 1082 rfl rfl
set_option maxRecDepth 100000 in
theorem ml_X9_304 : Cond.methodLink RX9 304 yX9_leftAtWorst ∈ WS := ws_t 1083 rfl rfl
set_option maxRecDepth 100000 in
theorem ml_X9_307 : Cond.methodLink RX9 307 yX9_pausesAbove ∈ WS := ws_t 1094 rfl rfl
set_option maxRecDepth 100000 in
theorem ml_X9_311 : Cond.methodLink RX9 311 yX9_pausesBelow ∈ WS := ws_t 1098 rfl rfl
set_option maxRecDepth 100000 in
theorem ml_X9_315 : Cond.methodLink RX9 315 yX9_greatestShared ∈ WS := ws_t 1101 rfl rfl
set_option maxRecDepth 100000 in
theorem ml_X9_322 : Cond.methodLink RX9 322 yX9_requireCars ∈ WS := ws_t 1132 rfl rfl
set_option maxRecDepth 100000 in
theorem ml_X9_326 : Cond.methodLink RX9 326 yX6_passWithCars ∈ WS := ws_t 1136 rfl rfl
set_option maxRecDepth 100000 in
theorem ml_X9_332 : Cond.methodLink RX9 332 yJ9_min_7cf53 ∈ WS := ws_t 439 rfl rfl
set_option maxRecDepth 100000 in
theorem ml_X9_335 : Cond.methodLink RX9 335 yX0_keep ∈ WS := ws_t 402 rfl rfl
set_option maxRecDepth 100000 in
theorem ml_X9_338 : Cond.methodLink RX9 338 yX0_takeBack ∈ WS := ws_t 415 rfl rfl
set_option maxRecDepth 100000 in
theorem ml_X9_346 : Cond.methodLink RX9 346 yX8_open ∈ WS := ws_t 509 rfl rfl
set_option maxRecDepth 100000 in
theorem ml_X9_349 : Cond.methodLink RX9 349 yX6_follow ∈ WS := ws_t 877 rfl rfl
set_option maxRecDepth 100000 in
theorem ml_X9_353 : Cond.methodLink RX9 353 yX6_keepAwake ∈ WS := ws_t 976 rfl rfl
set_option maxRecDepth 100000 in
theorem ml_X9_359 : Cond.methodLink RX9 359 yX6_loudHad ∈ WS := ws_t 1071 rfl rfl
set_option maxRecDepth 100000 in
theorem ml_X0_33 : Cond.methodLink RX0 33 yX2_copy ∈ WS := ws_t 407 rfl rfl
set_option maxRecDepth 100000 in
theorem ml_X1_22 : Cond.methodLink RX1 22 yX8_next ∈ WS := ws_t 811 rfl rfl
set_option maxRecDepth 100000 in
theorem ml_X1_28 : Cond.methodLink RX1 28 yX8_number ∈ WS := ws_t 812 rfl rfl
set_option maxRecDepth 100000 in
theorem ml_X1_32 : Cond.methodLink RX1 32 yX1_has ∈ WS := ws_t 813 rfl rfl
set_option maxRecDepth 100000 in
theorem ml_X1_39 : Cond.methodLink RX1 39 yX8_fail ∈ WS := ws_t 817 rfl rfl
set_option maxRecDepth 100000 in
theorem ml_X1_43 : Cond.methodLink RX1 43 yX8_take ∈ WS := ws_t 818 rfl rfl
set_option maxRecDepth 100000 in
theorem ml_X3_52 : Cond.methodLink RX3 52 yX3_clear ∈ WS := ws_t 518 rfl rfl
set_option maxRecDepth 100000 in
theorem ml_X3_55 : Cond.methodLink RX3 55 yX8_next ∈ WS := ws_t 522 rfl rfl
set_option maxRecDepth 100000 in
theorem ml_X3_63 : Cond.methodLink RX3 63 yX8_word ∈ WS := ws_t 527 rfl rfl
set_option maxRecDepth 100000 in
theorem ml_X3_70 : Cond.methodLink RX3 70 yX8_fail ∈ WS := ws_t 588 rfl rfl
set_option maxRecDepth 100000 in
theorem ml_X3_74 : Cond.methodLink RX3 74 yX3_readClause ∈ WS := ws_t 589 rfl rfl
set_option maxRecDepth 100000 in
theorem ml_X3_78 : Cond.methodLink RX3 78 yX8_take ∈ WS := ws_t 616 rfl rfl
set_option maxRecDepth 100000 in
theorem ml_X3_82 : Cond.methodLink RX3 82 yX3_readSleeper ∈ WS := ws_t 593 rfl rfl
set_option maxRecDepth 100000 in
theorem ml_X3_86 : Cond.methodLink RX3 86 yX3_readOf ∈ WS := ws_t 608 rfl rfl
set_option maxRecDepth 100000 in
theorem ml_X3_90 : Cond.methodLink RX3 90 yX8_number ∈ WS := ws_t 600 rfl rfl
set_option maxRecDepth 100000 in
theorem ml_X3_94 : Cond.methodLink RX3 94 yX3_readClock ∈ WS := ws_t 612 rfl rfl
set_option maxRecDepth 100000 in
theorem ml_X3_97 : Cond.methodLink RX3 97 yX3_readInto ∈ WS := ws_t 597 rfl rfl
set_option maxRecDepth 100000 in
theorem ml_X4_28 : Cond.methodLink RX4 28 yX4_isRest ∈ WS := ws_t 1010 rfl rfl
set_option maxRecDepth 100000 in
theorem ml_X5_25 : Cond.methodLink RX5 25 yX5_takeCode ∈ WS := ws_t 302 rfl rfl
set_option maxRecDepth 100000 in
theorem ml_X5_32 : Cond.methodLink RX5 32 yJ9_min_7cf53 ∈ WS := ws_t 306 rfl rfl
set_option maxRecDepth 100000 in
theorem ml_X5_38 : Cond.methodLink RX5 38 yX5_readSum ∈ WS := ws_t 636 rfl rfl
set_option maxRecDepth 100000 in
theorem ml_X5_42 : Cond.methodLink RX5 42 yX8_nothingMore ∈ WS := ws_t 667 rfl rfl
set_option maxRecDepth 100000 in
theorem ml_X5_48 : Cond.methodLink RX5 48 yX5_readProduct ∈ WS := ws_t 640 rfl rfl
set_option maxRecDepth 100000 in
theorem ml_X5_51 : Cond.methodLink RX5 51 yX8_next ∈ WS := ws_t 648 rfl rfl
set_option maxRecDepth 100000 in
theorem ml_X5_55 : Cond.methodLink RX5 55 yX8_take ∈ WS := ws_t 653 rfl rfl
set_option maxRecDepth 100000 in
theorem ml_X5_59 : Cond.methodLink RX5 59 yX5_put ∈ WS := ws_t 661 rfl rfl
set_option maxRecDepth 100000 in
theorem ml_X5_63 : Cond.methodLink RX5 63 yX5_readUnit ∈ WS := ws_t 644 rfl rfl
set_option maxRecDepth 100000 in
theorem ml_X5_66 : Cond.methodLink RX5 66 yX8_failHere ∈ WS := ws_t 649 rfl rfl
set_option maxRecDepth 100000 in
theorem ml_X5_70 : Cond.methodLink RX5 70 yX8_isDigit ∈ WS := ws_t 654 rfl rfl
set_option maxRecDepth 100000 in
theorem ml_X5_73 : Cond.methodLink RX5 73 yX5_readNamed ∈ WS := ws_t 655 rfl rfl
set_option maxRecDepth 100000 in
theorem ml_X5_76 : Cond.methodLink RX5 76 yX8_number ∈ WS := ws_t 666 rfl rfl
set_option maxRecDepth 100000 in
theorem ml_X5_81 : Cond.methodLink RX5 81 yX8_word ∈ WS := ws_t 660 rfl rfl
set_option maxRecDepth 100000 in
theorem ml_X5_88 : Cond.methodLink RX5 88 yX8_fail ∈ WS := ws_t 665 rfl rfl
set_option maxRecDepth 100000 in
theorem ml_X5_92 : Cond.methodLink RX5 92 yX5_join ∈ WS := ws_t 762 rfl rfl
set_option maxRecDepth 100000 in
theorem ml_X6_67 : Cond.methodLink RX6 67 yX6_isAsleep ∈ WS := ws_t 734 rfl rfl
set_option maxRecDepth 100000 in
theorem ml_X6_71 : Cond.methodLink RX6 71 yX6_giveTold ∈ WS := ws_t 754 rfl rfl
set_option maxRecDepth 100000 in
theorem ml_X6_75 : Cond.methodLink RX6 75 yX5_value ∈ WS := ws_t 758 rfl rfl
set_option maxRecDepth 100000 in
theorem ml_X6_79 : Cond.methodLink RX6 79 yX6_bounded ∈ WS := ws_t 765 rfl rfl
set_option maxRecDepth 100000 in
theorem ml_X6_83 : Cond.methodLink RX6 83 yJ9_min_7cf53 ∈ WS := ws_t 768 rfl rfl
set_option maxRecDepth 100000 in
theorem ml_X6_89 : Cond.methodLink RX6 89 yJ9_max_7cf53 ∈ WS := ws_t 769 rfl rfl
set_option maxRecDepth 100000 in
theorem ml_X6_104 : Cond.methodLink RX6 104 yX6_loudOf ∈ WS := ws_t 750 rfl rfl
set_option maxRecDepth 100000 in
theorem ml_X6_107 : Cond.methodLink RX6 107 yX3_strikesIn ∈ WS := ws_t 772 rfl rfl
set_option maxRecDepth 100000 in
theorem ml_X6_110 : Cond.methodLink RX6 110 yX6_reaching ∈ WS := ws_t 776 rfl rfl
set_option maxRecDepth 100000 in
theorem ml_X6_113 : Cond.methodLink RX6 113 yX6_hearAll ∈ WS := ws_t 746 rfl rfl
set_option maxRecDepth 100000 in
theorem ml_X6_116 : Cond.methodLink RX6 116 yX6_sleepOrWake ∈ WS := ws_t 780 rfl rfl
set_option maxRecDepth 100000 in
theorem ml_X6_119 : Cond.methodLink RX6 119 yX6_fallOrStay ∈ WS := ws_t 784 rfl rfl
set_option maxRecDepth 100000 in
theorem ml_X6_122 : Cond.methodLink RX6 122 yX6_falls ∈ WS := ws_t 788 rfl rfl
set_option maxRecDepth 100000 in
theorem ml_X6_125 : Cond.methodLink RX6 125 yX6_wake ∈ WS := ws_t 738 rfl rfl
set_option maxRecDepth 100000 in
theorem ml_X6_131 : Cond.methodLink RX6 131 yX6_sleptByAll ∈ WS := ws_t 945 rfl rfl
set_option maxRecDepth 100000 in
theorem ml_X6_135 : Cond.methodLink RX6 135 yX6_passMinute ∈ WS := ws_t 742 rfl rfl
set_option maxRecDepth 100000 in
theorem ml_X6_138 : Cond.methodLink RX6 138 yX6_sleptInNext ∈ WS := ws_t 957 rfl rfl
set_option maxRecDepth 100000 in
theorem ml_X6_141 : Cond.methodLink RX6 141 yX6_nudge ∈ WS := ws_t 730 rfl rfl
set_option maxRecDepth 100000 in
theorem ml_X6_146 : Cond.methodLink RX6 146 yX6_call ∈ WS := ws_t 792 rfl rfl
set_option maxRecDepth 100000 in
theorem ml_X6_149 : Cond.methodLink RX6 149 yX6_performAwake ∈ WS := ws_t 796 rfl rfl
set_option maxRecDepth 100000 in
theorem ml_X7_34 : Cond.methodLink RX7 34 yX7_readSteps ∈ WS := ws_t 690 rfl rfl
set_option maxRecDepth 100000 in
theorem ml_X7_38 : Cond.methodLink RX7 38 yX8_nothingMore ∈ WS := ws_t 716 rfl rfl
set_option maxRecDepth 100000 in
theorem ml_X7_44 : Cond.methodLink RX7 44 yX8_next ∈ WS := ws_t 694 rfl rfl
set_option maxRecDepth 100000 in
theorem ml_X7_48 : Cond.methodLink RX7 48 yX7_readStep ∈ WS := ws_t 695 rfl rfl
set_option maxRecDepth 100000 in
theorem ml_X7_51 : Cond.methodLink RX7 51 yX8_take ∈ WS := ws_t 715 rfl rfl
set_option maxRecDepth 100000 in
theorem ml_X7_57 : Cond.methodLink RX7 57 yX8_word ∈ WS := ws_t 700 rfl rfl
set_option maxRecDepth 100000 in
theorem ml_X7_61 : Cond.methodLink RX7 61 yX7_readPair ∈ WS := ws_t 701 rfl rfl
set_option maxRecDepth 100000 in
theorem ml_X7_65 : Cond.methodLink RX7 65 yX7_readAgain ∈ WS := ws_t 710 rfl rfl
set_option maxRecDepth 100000 in
theorem ml_X7_68 : Cond.methodLink RX7 68 yX7_put ∈ WS := ws_t 706 rfl rfl
set_option maxRecDepth 100000 in
theorem ml_X7_72 : Cond.methodLink RX7 72 yX8_number ∈ WS := ws_t 705 rfl rfl
set_option maxRecDepth 100000 in
theorem ml_X7_79 : Cond.methodLink RX7 79 yX8_fail ∈ WS := ws_t 714 rfl rfl
set_option maxRecDepth 100000 in
theorem ml_X7_83 : Cond.methodLink RX7 83 yX7_carryOut ∈ WS := ws_t 725 rfl rfl
set_option maxRecDepth 100000 in
theorem ml_X7_87 : Cond.methodLink RX7 87 yX6_perform ∈ WS := ws_t 726 rfl rfl
set_option maxRecDepth 100000 in
theorem ml_X8_34 : Cond.methodLink RX8 34 yJ9_min_7cf53 ∈ WS := ws_t 513 rfl rfl
set_option maxRecDepth 100000 in
theorem ml_X8_40 : Cond.methodLink RX8 40 yX8_fail ∈ WS := ws_t 584 rfl rfl
set_option maxRecDepth 100000 in
theorem ml_X8_44 : Cond.methodLink RX8 44 yX8_next ∈ WS := ws_t 531 rfl rfl
set_option maxRecDepth 100000 in
theorem ml_X8_48 : Cond.methodLink RX8 48 yX8_isDigit ∈ WS := ws_t 604 rfl rfl
set_option maxRecDepth 100000 in
theorem ml_X8_53 : Cond.methodLink RX8 53 yJ0_length_8abf5 ∈ WS := ws_t 532 rfl rfl
set_option maxRecDepth 100000 in
theorem ml_X8_57 : Cond.methodLink RX8 57 yJ0_charAt_5068e ∈ WS := ws_t 542 rfl rfl
set_option maxRecDepth 100000 in
theorem ml_X8_61 : Cond.methodLink RX8 61 yX8_isWord ∈ WS := ws_t 580 rfl rfl
set_option maxRecDepth 100000 in
theorem ml_L_7 : Cond.methodLink RL 7 yX9_house ∈ WS := ws_t 431 rfl rfl
set_option maxRecDepth 100000 in
theorem ml_L_15 : Cond.methodLink RL 15 yX9_law ∈ WS := ws_t 628 rfl rfl
set_option maxRecDepth 100000 in
theorem ml_L_19 : Cond.methodLink RL 19 yX9_work ∈ WS := ws_t 678 rfl rfl
set_option maxRecDepth 100000 in
theorem ml_L_22 : Cond.methodLink RL 22 yX9_book ∈ WS := ws_t 803 rfl rfl
set_option maxRecDepth 100000 in
theorem ml_L_25 : Cond.methodLink RL 25 yX9_told ∈ WS := ws_t 826 rfl rfl
set_option maxRecDepth 100000 in
theorem ml_L_28 : Cond.methodLink RL 28 yX9_sleeper ∈ WS := ws_t 842 rfl rfl
set_option maxRecDepth 100000 in
theorem ml_L_33 : Cond.methodLink RL 33 yX9_noise ∈ WS := ws_t 869 rfl rfl
set_option maxRecDepth 100000 in
theorem ml_L_36 : Cond.methodLink RL 36 yX9_loud ∈ WS := ws_t 886 rfl rfl
set_option maxRecDepth 100000 in
theorem ml_L_39 : Cond.methodLink RL 39 yX9_would ∈ WS := ws_t 894 rfl rfl
set_option maxRecDepth 100000 in
theorem ml_L_43 : Cond.methodLink RL 43 yX9_clock ∈ WS := ws_t 905 rfl rfl
set_option maxRecDepth 100000 in
theorem ml_L_46 : Cond.methodLink RL 46 yX9_changes ∈ WS := ws_t 913 rfl rfl
set_option maxRecDepth 100000 in
theorem ml_L_50 : Cond.methodLink RL 50 yX9_loudest ∈ WS := ws_t 922 rfl rfl
set_option maxRecDepth 100000 in
theorem ml_L_53 : Cond.methodLink RL 53 yX9_soon ∈ WS := ws_t 930 rfl rfl
set_option maxRecDepth 100000 in
theorem ml_L_56 : Cond.methodLink RL 56 yX9_slept ∈ WS := ws_t 937 rfl rfl
set_option maxRecDepth 100000 in
theorem ml_L_59 : Cond.methodLink RL 59 yX9_sleeps ∈ WS := ws_t 949 rfl rfl
set_option maxRecDepth 100000 in
theorem ml_L_62 : Cond.methodLink RL 62 yX9_most ∈ WS := ws_t 961 rfl rfl
set_option maxRecDepth 100000 in
theorem ml_L_65 : Cond.methodLink RL 65 yX9_head ∈ WS := ws_t 968 rfl rfl
set_option maxRecDepth 100000 in
theorem ml_L_69 : Cond.methodLink RL 69 yX9_best ∈ WS := ws_t 983 rfl rfl
set_option maxRecDepth 100000 in
theorem ml_L_72 : Cond.methodLink RL 72 yX9_hurry ∈ WS := ws_t 990 rfl rfl
set_option maxRecDepth 100000 in
theorem ml_L_75 : Cond.methodLink RL 75 yX9_reads ∈ WS := ws_t 1017 rfl rfl
set_option maxRecDepth 100000 in
theorem ml_L_78 : Cond.methodLink RL 78 yX9_nudges ∈ WS := ws_t 1024 rfl rfl
set_option maxRecDepth 100000 in
theorem ml_L_82 : Cond.methodLink RL 82 yX9_rooms ∈ WS := ws_t 1035 rfl rfl
set_option maxRecDepth 100000 in
theorem ml_L_85 : Cond.methodLink RL 85 yX9_inTurns ∈ WS := ws_t 1046 rfl rfl
set_option maxRecDepth 100000 in
theorem ml_L_88 : Cond.methodLink RL 88 yX9_fits ∈ WS := ws_t 1063 rfl rfl
set_option maxRecDepth 100000 in
theorem ml_L_91 : Cond.methodLink RL 91 yX9_listen ∈ WS := ws_t 1078 rfl rfl
set_option maxRecDepth 100000 in
theorem ml_L_94 : Cond.methodLink RL 94 yX9_pauses ∈ WS := ws_t 1090 rfl rfl
set_option maxRecDepth 100000 in
theorem ml_L_98 : Cond.methodLink RL 98 yX9_doctor ∈ WS := ws_t 1107 rfl rfl
set_option maxRecDepth 100000 in
theorem ml_L_101 : Cond.methodLink RL 101 yX9_wall ∈ WS := ws_t 1114 rfl rfl
set_option maxRecDepth 100000 in
theorem ml_L_104 : Cond.methodLink RL 104 yX9_plugs ∈ WS := ws_t 1121 rfl rfl
set_option maxRecDepth 100000 in
theorem ml_L_107 : Cond.methodLink RL 107 yX9_nights ∈ WS := ws_t 1128 rfl rfl
set_option maxRecDepth 100000 in
theorem ml_L_110 : Cond.methodLink RL 110 yX9_span ∈ WS := ws_t 1144 rfl rfl
set_option maxRecDepth 100000 in
theorem ml_L_114 : Cond.methodLink RL 114 yX9_init ∈ WS := ws_t 26 rfl rfl
set_option maxRecDepth 100000 in
theorem ml_L_117 : Cond.methodLink RL 117 yX10_init ∈ WS := ws_t 1154 rfl rfl
set_option maxRecDepth 100000 in
theorem ml_L_118 : Cond.methodLink RL 118 yX9_feed ∈ WS := ws_t 371 rfl rfl
set_option maxRecDepth 100000 in
theorem ml_L_121 : Cond.methodLink RL 121 yX10_feed ∈ WS := ws_t 1330 rfl rfl
set_option maxRecDepth 100000 in
theorem ml_L_122 : Cond.methodLink RL 122 yL_house ∈ WS := ws_t 427 rfl rfl
set_option maxRecDepth 100000 in
theorem ml_L_127 : Cond.methodLink RL 127 yX10_house ∈ WS := ws_t 1338 rfl rfl
set_option maxRecDepth 100000 in
theorem ml_L_128 : Cond.methodLink RL 128 yX10_thrown ∈ WS := ws_t 1148 rfl rfl
set_option maxRecDepth 100000 in
theorem ml_L_132 : Cond.methodLink RL 132 yL_law ∈ WS := ws_t 625 rfl rfl
set_option maxRecDepth 100000 in
theorem ml_L_135 : Cond.methodLink RL 135 yX10_law ∈ WS := ws_t 1424 rfl rfl
set_option maxRecDepth 100000 in
theorem ml_L_136 : Cond.methodLink RL 136 yL_work ∈ WS := ws_t 675 rfl rfl
set_option maxRecDepth 100000 in
theorem ml_L_138 : Cond.methodLink RL 138 yX10_work ∈ WS := ws_t 1468 rfl rfl
set_option maxRecDepth 100000 in
theorem ml_L_139 : Cond.methodLink RL 139 yL_book ∈ WS := ws_t 800 rfl rfl
set_option maxRecDepth 100000 in
theorem ml_L_141 : Cond.methodLink RL 141 yX10_book ∈ WS := ws_t 1560 rfl rfl
set_option maxRecDepth 100000 in
theorem ml_L_142 : Cond.methodLink RL 142 yX9_fault ∈ WS := ws_t 383 rfl rfl
set_option maxRecDepth 100000 in
theorem ml_L_145 : Cond.methodLink RL 145 yX10_fault ∈ WS := ws_t 1334 rfl rfl
set_option maxRecDepth 100000 in
theorem ml_L_146 : Cond.methodLink RL 146 yX9_undo ∈ WS := ws_t 387 rfl rfl
set_option maxRecDepth 100000 in
theorem ml_L_149 : Cond.methodLink RL 149 yX10_undo ∈ WS := ws_t 1564 rfl rfl
set_option maxRecDepth 100000 in
theorem ml_L_150 : Cond.methodLink RL 150 yL_told ∈ WS := ws_t 823 rfl rfl
set_option maxRecDepth 100000 in
theorem ml_L_152 : Cond.methodLink RL 152 yX10_told ∈ WS := ws_t 1568 rfl rfl
set_option maxRecDepth 100000 in
theorem ml_L_153 : Cond.methodLink RL 153 yL_sleeper ∈ WS := ws_t 838 rfl rfl
set_option maxRecDepth 100000 in
theorem ml_L_155 : Cond.methodLink RL 155 yX10_sleeper ∈ WS := ws_t 1580 rfl rfl
set_option maxRecDepth 100000 in
theorem ml_L_156 : Cond.methodLink RL 156 yL_noise ∈ WS := ws_t 866 rfl rfl
set_option maxRecDepth 100000 in
theorem ml_L_158 : Cond.methodLink RL 158 yX10_noise ∈ WS := ws_t 1588 rfl rfl
set_option maxRecDepth 100000 in
theorem ml_L_159 : Cond.methodLink RL 159 yL_loud ∈ WS := ws_t 883 rfl rfl
set_option maxRecDepth 100000 in
theorem ml_L_161 : Cond.methodLink RL 161 yX10_loud ∈ WS := ws_t 1592 rfl rfl
set_option maxRecDepth 100000 in
theorem ml_L_162 : Cond.methodLink RL 162 yL_would ∈ WS := ws_t 891 rfl rfl
set_option maxRecDepth 100000 in
theorem ml_L_165 : Cond.methodLink RL 165 yX10_would ∈ WS := ws_t 1596 rfl rfl
set_option maxRecDepth 100000 in
theorem ml_L_166 : Cond.methodLink RL 166 yL_clock ∈ WS := ws_t 902 rfl rfl
set_option maxRecDepth 100000 in
theorem ml_L_168 : Cond.methodLink RL 168 yX10_clock ∈ WS := ws_t 1600 rfl rfl
set_option maxRecDepth 100000 in
theorem ml_L_169 : Cond.methodLink RL 169 yL_changes ∈ WS := ws_t 910 rfl rfl
set_option maxRecDepth 100000 in
theorem ml_L_171 : Cond.methodLink RL 171 yX10_changes ∈ WS := ws_t 1604 rfl rfl
set_option maxRecDepth 100000 in
theorem ml_L_172 : Cond.methodLink RL 172 yL_loudest ∈ WS := ws_t 919 rfl rfl
set_option maxRecDepth 100000 in
theorem ml_L_174 : Cond.methodLink RL 174 yX10_loudest ∈ WS := ws_t 1608 rfl rfl
set_option maxRecDepth 100000 in
theorem ml_L_175 : Cond.methodLink RL 175 yL_soon ∈ WS := ws_t 927 rfl rfl
set_option maxRecDepth 100000 in
theorem ml_L_177 : Cond.methodLink RL 177 yX10_soon ∈ WS := ws_t 1612 rfl rfl
set_option maxRecDepth 100000 in
theorem ml_L_178 : Cond.methodLink RL 178 yL_slept ∈ WS := ws_t 934 rfl rfl
set_option maxRecDepth 100000 in
theorem ml_L_180 : Cond.methodLink RL 180 yX10_slept ∈ WS := ws_t 1616 rfl rfl
set_option maxRecDepth 100000 in
theorem ml_L_181 : Cond.methodLink RL 181 yL_sleeps ∈ WS := ws_t 946 rfl rfl
set_option maxRecDepth 100000 in
theorem ml_L_183 : Cond.methodLink RL 183 yX10_sleeps ∈ WS := ws_t 1627 rfl rfl
set_option maxRecDepth 100000 in
theorem ml_L_184 : Cond.methodLink RL 184 yL_most ∈ WS := ws_t 958 rfl rfl
set_option maxRecDepth 100000 in
theorem ml_L_186 : Cond.methodLink RL 186 yX10_most ∈ WS := ws_t 1635 rfl rfl
set_option maxRecDepth 100000 in
theorem ml_L_187 : Cond.methodLink RL 187 yL_head ∈ WS := ws_t 965 rfl rfl
set_option maxRecDepth 100000 in
theorem ml_L_190 : Cond.methodLink RL 190 yX10_head ∈ WS := ws_t 1639 rfl rfl
set_option maxRecDepth 100000 in
theorem ml_L_191 : Cond.methodLink RL 191 yL_best ∈ WS := ws_t 980 rfl rfl
set_option maxRecDepth 100000 in
theorem ml_L_193 : Cond.methodLink RL 193 yX10_best ∈ WS := ws_t 1647 rfl rfl
set_option maxRecDepth 100000 in
theorem ml_L_194 : Cond.methodLink RL 194 yL_hurry ∈ WS := ws_t 987 rfl rfl
set_option maxRecDepth 100000 in
theorem ml_L_196 : Cond.methodLink RL 196 yX10_hurry ∈ WS := ws_t 1651 rfl rfl
set_option maxRecDepth 100000 in
theorem ml_L_197 : Cond.methodLink RL 197 yL_reads ∈ WS := ws_t 1014 rfl rfl
set_option maxRecDepth 100000 in
theorem ml_L_199 : Cond.methodLink RL 199 yX10_reads ∈ WS := ws_t 1670 rfl rfl
set_option maxRecDepth 100000 in
theorem ml_L_200 : Cond.methodLink RL 200 yL_nudges ∈ WS := ws_t 1021 rfl rfl
set_option maxRecDepth 100000 in
theorem ml_L_203 : Cond.methodLink RL 203 yX10_nudges ∈ WS := ws_t 1674 rfl rfl
set_option maxRecDepth 100000 in
theorem ml_L_204 : Cond.methodLink RL 204 yL_rooms ∈ WS := ws_t 1032 rfl rfl
set_option maxRecDepth 100000 in
theorem ml_L_206 : Cond.methodLink RL 206 yX10_rooms ∈ WS := ws_t 1678 rfl rfl
set_option maxRecDepth 100000 in
theorem ml_L_207 : Cond.methodLink RL 207 yL_inTurns ∈ WS := ws_t 1043 rfl rfl
set_option maxRecDepth 100000 in
theorem ml_L_209 : Cond.methodLink RL 209 yX10_inTurns ∈ WS := ws_t 1682 rfl rfl
set_option maxRecDepth 100000 in
theorem ml_L_210 : Cond.methodLink RL 210 yL_fits ∈ WS := ws_t 1060 rfl rfl
set_option maxRecDepth 100000 in
theorem ml_L_212 : Cond.methodLink RL 212 yX10_fits ∈ WS := ws_t 1691 rfl rfl
set_option maxRecDepth 100000 in
theorem ml_L_213 : Cond.methodLink RL 213 yL_listen ∈ WS := ws_t 1075 rfl rfl
set_option maxRecDepth 100000 in
theorem ml_L_215 : Cond.methodLink RL 215 yX10_listen ∈ WS := ws_t 1703 rfl rfl
set_option maxRecDepth 100000 in
theorem ml_L_216 : Cond.methodLink RL 216 yL_pauses ∈ WS := ws_t 1087 rfl rfl
set_option maxRecDepth 100000 in
theorem ml_L_218 : Cond.methodLink RL 218 yX10_pauses ∈ WS := ws_t 1715 rfl rfl
set_option maxRecDepth 100000 in
theorem ml_L_219 : Cond.methodLink RL 219 yL_doctor ∈ WS := ws_t 1104 rfl rfl
set_option maxRecDepth 100000 in
theorem ml_L_221 : Cond.methodLink RL 221 yX10_doctor ∈ WS := ws_t 1729 rfl rfl
set_option maxRecDepth 100000 in
theorem ml_L_222 : Cond.methodLink RL 222 yL_wall ∈ WS := ws_t 1111 rfl rfl
set_option maxRecDepth 100000 in
theorem ml_L_224 : Cond.methodLink RL 224 yX10_wall ∈ WS := ws_t 1733 rfl rfl
set_option maxRecDepth 100000 in
theorem ml_L_225 : Cond.methodLink RL 225 yL_plugs ∈ WS := ws_t 1118 rfl rfl
set_option maxRecDepth 100000 in
theorem ml_L_227 : Cond.methodLink RL 227 yX10_plugs ∈ WS := ws_t 1737 rfl rfl
set_option maxRecDepth 100000 in
theorem ml_L_228 : Cond.methodLink RL 228 yL_nights ∈ WS := ws_t 1125 rfl rfl
set_option maxRecDepth 100000 in
theorem ml_L_230 : Cond.methodLink RL 230 yX10_nights ∈ WS := ws_t 1741 rfl rfl
set_option maxRecDepth 100000 in
theorem ml_L_231 : Cond.methodLink RL 231 yL_span ∈ WS := ws_t 1141 rfl rfl
set_option maxRecDepth 100000 in
theorem ml_L_234 : Cond.methodLink RL 234 yX10_span ∈ WS := ws_t 1761 rfl rfl
set_option maxRecDepth 100000 in
theorem ml_L_235 : Cond.methodLink RL 235 yX9_image ∈ WS := ws_t 398 rfl rfl
set_option maxRecDepth 100000 in
theorem ml_L_238 : Cond.methodLink RL 238 yX10_image ∈ WS := ws_t 1765 rfl rfl
set_option maxRecDepth 100000 in
theorem ml_L_239 : Cond.methodLink RL 239 yX9_restore ∈ WS := ws_t 411 rfl rfl
set_option maxRecDepth 100000 in
theorem ml_L_242 : Cond.methodLink RL 242 yX10_restore ∈ WS := ws_t 1777 rfl rfl
set_option maxRecDepth 100000 in
theorem ml_L_243 : Cond.methodLink RL 243 yX9_status ∈ WS := ws_t 419 rfl rfl
set_option maxRecDepth 100000 in
theorem ml_L_246 : Cond.methodLink RL 246 yX10_status ∈ WS := ws_t 1781 rfl rfl
set_option maxRecDepth 100000 in
theorem ml_L_247 : Cond.methodLink RL 247 yX9_count ∈ WS := ws_t 423 rfl rfl
set_option maxRecDepth 100000 in
theorem ml_L_250 : Cond.methodLink RL 250 yX10_count ∈ WS := ws_t 1785 rfl rfl
set_option maxRecDepth 100000 in
theorem ml_X10_92 : Cond.methodLink RX10 92 yX10_clears ∈ WS := ws_t 1158 rfl rfl
set_option maxRecDepth 100000 in
theorem ml_X10_95 : Cond.methodLink RX10 95 yX10_sets ∈ WS := ws_t 1162 rfl rfl
set_option maxRecDepth 100000 in
theorem ml_X10_113 : Cond.methodLink RX10 113 yX10_here ∈ WS := ws_t 1358 rfl rfl
set_option maxRecDepth 100000 in
theorem ml_X10_117 : Cond.methodLink RX10 117 yX10_isSmall ∈ WS := ws_t 1369 rfl rfl
set_option maxRecDepth 100000 in
theorem ml_X10_121 : Cond.methodLink RX10 121 yJ0_length_8abf5 ∈ WS := ws_t 1367 rfl rfl
set_option maxRecDepth 100000 in
theorem ml_X10_126 : Cond.methodLink RX10 126 yJ0_charAt_5068e ∈ WS := ws_t 1368 rfl rfl
set_option maxRecDepth 100000 in
theorem ml_X10_130 : Cond.methodLink RX10 130 yX10_fine ∈ WS := ws_t 1350 rfl rfl
set_option maxRecDepth 100000 in
theorem ml_X10_134 : Cond.methodLink RX10 134 yX10_isDigit ∈ WS := ws_t 1405 rfl rfl
set_option maxRecDepth 100000 in
theorem ml_X10_137 : Cond.methodLink RX10 137 yX10_wrong ∈ WS := ws_t 1389 rfl rfl
set_option maxRecDepth 100000 in
theorem ml_X10_165 : Cond.methodLink RX10 165 yX10_copies ∈ WS := ws_t 1166 rfl rfl
set_option maxRecDepth 100000 in
theorem ml_X10_181 : Cond.methodLink RX10 181 yX10_readNumber ∈ WS := ws_t 1401 rfl rfl
set_option maxRecDepth 100000 in
theorem ml_X10_187 : Cond.methodLink RX10 187 yX10_of ∈ WS := ws_t 1380 rfl rfl
set_option maxRecDepth 100000 in
theorem ml_X10_191 : Cond.methodLink RX10 191 yX10_readOf ∈ WS := ws_t 1412 rfl rfl
set_option maxRecDepth 100000 in
theorem ml_X10_203 : Cond.methodLink RX10 203 yX10_may ∈ WS := ws_t 1342 rfl rfl
set_option maxRecDepth 100000 in
theorem ml_X10_207 : Cond.methodLink RX10 207 yX10_begins ∈ WS := ws_t 1346 rfl rfl
set_option maxRecDepth 100000 in
theorem ml_X10_211 : Cond.methodLink RX10 211 yX10_isMore ∈ WS := ws_t 1354 rfl rfl
set_option maxRecDepth 100000 in
theorem ml_X10_215 : Cond.methodLink RX10 215 yX10_standsHere ∈ WS := ws_t 1363 rfl rfl
set_option maxRecDepth 100000 in
theorem ml_X10_219 : Cond.methodLink RX10 219 yX10_word ∈ WS := ws_t 1372 rfl rfl
set_option maxRecDepth 100000 in
theorem ml_X10_222 : Cond.methodLink RX10 222 yX10_isRow ∈ WS := ws_t 1376 rfl rfl
set_option maxRecDepth 100000 in
theorem ml_X10_225 : Cond.methodLink RX10 225 yX10_pass ∈ WS := ws_t 1393 rfl rfl
set_option maxRecDepth 100000 in
theorem ml_X10_228 : Cond.methodLink RX10 228 yX10_readSleeper ∈ WS := ws_t 1397 rfl rfl
set_option maxRecDepth 100000 in
theorem ml_X10_231 : Cond.methodLink RX10 231 yX10_readRow ∈ WS := ws_t 1408 rfl rfl
set_option maxRecDepth 100000 in
theorem ml_X10_234 : Cond.methodLink RX10 234 yX10_sign ∈ WS := ws_t 1416 rfl rfl
set_option maxRecDepth 100000 in
theorem ml_X10_237 : Cond.methodLink RX10 237 yX10_result ∈ WS := ws_t 1420 rfl rfl
set_option maxRecDepth 100000 in
theorem ml_X10_244 : Cond.methodLink RX10 244 yX10_readProduct ∈ WS := ws_t 1435 rfl rfl
set_option maxRecDepth 100000 in
theorem ml_X10_247 : Cond.methodLink RX10 247 yX10_emit ∈ WS := ws_t 1447 rfl rfl
set_option maxRecDepth 100000 in
theorem ml_X10_250 : Cond.methodLink RX10 250 yX10_readUnit ∈ WS := ws_t 1439 rfl rfl
set_option maxRecDepth 100000 in
theorem ml_X10_253 : Cond.methodLink RX10 253 yX10_opensOne ∈ WS := ws_t 1443 rfl rfl
set_option maxRecDepth 100000 in
theorem ml_X10_256 : Cond.methodLink RX10 256 yX10_readSum ∈ WS := ws_t 1431 rfl rfl
set_option maxRecDepth 100000 in
theorem ml_X10_274 : Cond.methodLink RX10 274 yX10_readTwo ∈ WS := ws_t 1452 rfl rfl
set_option maxRecDepth 100000 in
theorem ml_X10_279 : Cond.methodLink RX10 279 yX10_factHere ∈ WS := ws_t 1457 rfl rfl
set_option maxRecDepth 100000 in
theorem ml_X10_282 : Cond.methodLink RX10 282 yX10_within ∈ WS := ws_t 1428 rfl rfl
set_option maxRecDepth 100000 in
theorem ml_X10_286 : Cond.methodLink RX10 286 yX10_both ∈ WS := ws_t 1533 rfl rfl
set_option maxRecDepth 100000 in
theorem ml_X10_290 : Cond.methodLink RX10 290 yX10_valueOf ∈ WS := ws_t 1529 rfl rfl
set_option maxRecDepth 100000 in
theorem ml_X10_298 : Cond.methodLink RX10 298 yX10_readOne ∈ WS := ws_t 1477 rfl rfl
set_option maxRecDepth 100000 in
theorem ml_X10_301 : Cond.methodLink RX10 301 yX10_tellsStep ∈ WS := ws_t 1481 rfl rfl
set_option maxRecDepth 100000 in
theorem ml_X10_313 : Cond.methodLink RX10 313 yX10_readStep ∈ WS := ws_t 1472 rfl rfl
set_option maxRecDepth 100000 in
theorem ml_X10_316 : Cond.methodLink RX10 316 yX10_take ∈ WS := ws_t 1489 rfl rfl
set_option maxRecDepth 100000 in
theorem ml_X10_328 : Cond.methodLink RX10 328 yX10_goesSteps ∈ WS := ws_t 1493 rfl rfl
set_option maxRecDepth 100000 in
theorem ml_X10_331 : Cond.methodLink RX10 331 yX10_goes ∈ WS := ws_t 1497 rfl rfl
set_option maxRecDepth 100000 in
theorem ml_X10_337 : Cond.methodLink RX10 337 yX10_findFacts ∈ WS := ws_t 1521 rfl rfl
set_option maxRecDepth 100000 in
theorem ml_X10_340 : Cond.methodLink RX10 340 yX10_loudNow ∈ WS := ws_t 1525 rfl rfl
set_option maxRecDepth 100000 in
theorem ml_X10_343 : Cond.methodLink RX10 343 yX10_isAsleep ∈ WS := ws_t 1513 rfl rfl
set_option maxRecDepth 100000 in
theorem ml_X10_346 : Cond.methodLink RX10 346 yX10_loudOf ∈ WS := ws_t 1517 rfl rfl
set_option maxRecDepth 100000 in
theorem ml_X10_349 : Cond.methodLink RX10 349 yX10_from ∈ WS := ws_t 1509 rfl rfl
set_option maxRecDepth 100000 in
theorem ml_X10_352 : Cond.methodLink RX10 352 yX10_isFalling ∈ WS := ws_t 1540 rfl rfl
set_option maxRecDepth 100000 in
theorem ml_X10_355 : Cond.methodLink RX10 355 yX10_noiseOf ∈ WS := ws_t 1505 rfl rfl
set_option maxRecDepth 100000 in
theorem ml_X10_358 : Cond.methodLink RX10 358 yX10_isChanging ∈ WS := ws_t 1536 rfl rfl
set_option maxRecDepth 100000 in
theorem ml_X10_362 : Cond.methodLink RX10 362 yX10_lies ∈ WS := ws_t 1544 rfl rfl
set_option maxRecDepth 100000 in
theorem ml_X10_366 : Cond.methodLink RX10 366 yX10_wakes ∈ WS := ws_t 1548 rfl rfl
set_option maxRecDepth 100000 in
theorem ml_X10_369 : Cond.methodLink RX10 369 yX10_sleepsOn ∈ WS := ws_t 1552 rfl rfl
set_option maxRecDepth 100000 in
theorem ml_X10_372 : Cond.methodLink RX10 372 yX10_minute ∈ WS := ws_t 1501 rfl rfl
set_option maxRecDepth 100000 in
theorem ml_X10_374 : Cond.methodLink RX10 374 yX10_nudgesNow ∈ WS := ws_t 1556 rfl rfl
set_option maxRecDepth 100000 in
theorem ml_X10_377 : Cond.methodLink RX10 377 yX10_sleptAll ∈ WS := ws_t 1576 rfl rfl
set_option maxRecDepth 100000 in
theorem ml_X10_380 : Cond.methodLink RX10 380 yX10_asleepAll ∈ WS := ws_t 1572 rfl rfl
set_option maxRecDepth 100000 in
theorem ml_X10_383 : Cond.methodLink RX10 383 yX10_isSleeper ∈ WS := ws_t 1584 rfl rfl
set_option maxRecDepth 100000 in
theorem ml_X10_386 : Cond.methodLink RX10 386 yX10_isMany ∈ WS := ws_t 1620 rfl rfl
set_option maxRecDepth 100000 in
theorem ml_X10_389 : Cond.methodLink RX10 389 yX10_goesOn ∈ WS := ws_t 1623 rfl rfl
set_option maxRecDepth 100000 in
theorem ml_X10_392 : Cond.methodLink RX10 392 yX10_sleepsIn ∈ WS := ws_t 1631 rfl rfl
set_option maxRecDepth 100000 in
theorem ml_X10_395 : Cond.methodLink RX10 395 yX10_headOf ∈ WS := ws_t 1643 rfl rfl
set_option maxRecDepth 100000 in
theorem ml_X10_398 : Cond.methodLink RX10 398 yX10_mine ∈ WS := ws_t 1666 rfl rfl
set_option maxRecDepth 100000 in
theorem ml_X10_401 : Cond.methodLink RX10 401 yX10_isFew ∈ WS := ws_t 1655 rfl rfl
set_option maxRecDepth 100000 in
theorem ml_X10_404 : Cond.methodLink RX10 404 yX10_readsFor ∈ WS := ws_t 1658 rfl rfl
set_option maxRecDepth 100000 in
theorem ml_X10_408 : Cond.methodLink RX10 408 yX10_isRest ∈ WS := ws_t 1662 rfl rfl
set_option maxRecDepth 100000 in
theorem ml_X10_414 : Cond.methodLink RX10 414 yX10_turnsOn ∈ WS := ws_t 1687 rfl rfl
set_option maxRecDepth 100000 in
theorem ml_X10_420 : Cond.methodLink RX10 420 yX10_loudIn ∈ WS := ws_t 1699 rfl rfl
set_option maxRecDepth 100000 in
theorem ml_X10_423 : Cond.methodLink RX10 423 yX10_fitsOf ∈ WS := ws_t 1695 rfl rfl
set_option maxRecDepth 100000 in
theorem ml_X10_426 : Cond.methodLink RX10 426 yX10_isTold ∈ WS := ws_t 1707 rfl rfl
set_option maxRecDepth 100000 in
theorem ml_X10_429 : Cond.methodLink RX10 429 yX10_worstAt ∈ WS := ws_t 1711 rfl rfl
set_option maxRecDepth 100000 in
theorem ml_X10_432 : Cond.methodLink RX10 432 yX10_power ∈ WS := ws_t 1722 rfl rfl
set_option maxRecDepth 100000 in
theorem ml_X10_436 : Cond.methodLink RX10 436 yX10_meanOf ∈ WS := ws_t 1719 rfl rfl
set_option maxRecDepth 100000 in
theorem ml_X10_442 : Cond.methodLink RX10 442 yX10_least ∈ WS := ws_t 1726 rfl rfl
set_option maxRecDepth 100000 in
theorem ml_X10_452 : Cond.methodLink RX10 452 yX10_draws ∈ WS := ws_t 1752 rfl rfl
set_option maxRecDepth 100000 in
theorem ml_X10_455 : Cond.methodLink RX10 455 yX10_isNight ∈ WS := ws_t 1745 rfl rfl
set_option maxRecDepth 100000 in
theorem ml_X10_458 : Cond.methodLink RX10 458 yX10_drives ∈ WS := ws_t 1748 rfl rfl
set_option maxRecDepth 100000 in
theorem ml_X10_462 : Cond.methodLink RX10 462 yX10_sleptNow ∈ WS := ws_t 1757 rfl rfl
set_option maxRecDepth 100000 in
theorem ml_X10_465 : Cond.methodLink RX10 465 yX10_keepsRow ∈ WS := ws_t 1773 rfl rfl
set_option maxRecDepth 100000 in
theorem ml_X10_469 : Cond.methodLink RX10 469 yX10_keepsAll ∈ WS := ws_t 1769 rfl rfl
set_option maxRecDepth 100000 in
theorem ml_J0_335 : Cond.methodLink RJ0 335 yJ0_coder_7d493 ∈ WS := ws_t 536 rfl rfl
set_option maxRecDepth 100000 in
theorem ml_J0_492 : Cond.methodLink RJ0 492 yJ0_isLatin1_aae02 ∈ WS := ws_t 546 rfl rfl
set_option maxRecDepth 100000 in
theorem ml_J0_495 : Cond.methodLink RJ0 495 yJ1_charAt_3b067 ∈ WS := ws_t 550 rfl rfl
set_option maxRecDepth 100000 in
theorem ml_J0_498 : Cond.methodLink RJ0 498 yJ2_charAt_3b067 ∈ WS := ws_t 561 rfl rfl
set_option maxRecDepth 100000 in
theorem ml_J0_1059 : Cond.methodLink RJ0 1059 yJ3_checkIndex_8e157 ∈ WS := ws_t 558 rfl rfl
set_option maxRecDepth 100000 in
theorem ml_J1_9 : Cond.methodLink RJ1 9 yJ0_checkIndex_df160 ∈ WS := ws_t 553 rfl rfl
set_option maxRecDepth 100000 in
theorem ml_J2_48 : Cond.methodLink RJ2 48 yJ2_length_9d52b ∈ WS := ws_t 567 rfl rfl
set_option maxRecDepth 100000 in
theorem ml_J2_67 : Cond.methodLink RJ2 67 yJ2_checkIndex_2214a ∈ WS := ws_t 564 rfl rfl
set_option maxRecDepth 100000 in
theorem ml_J2_71 : Cond.methodLink RJ2 71 yJ2_getChar_3b067 ∈ WS := ws_t 571 rfl rfl
set_option maxRecDepth 100000 in
theorem ml_J2_414 : Cond.methodLink RJ2 414 yJ0_checkIndex_df160 ∈ WS := ws_t 570 rfl rfl
set_option maxRecDepth 100000 in
theorem kc_X9_365 : Cond.constantLong RX9 365 (16) ∈ WS := ws_t 1097 rfl rfl
set_option maxRecDepth 100000 in
theorem kc_X6_145 : Cond.constant RX6 145 (1103515245) ∈ WS := ws_t 1140 rfl rfl
set_option maxRecDepth 100000 in
theorem kc_X8_52 : Cond.constant RX8 52 (100000) ∈ WS := ws_t 607 rfl rfl
set_option maxRecDepth 100000 in
theorem kc_X10_419 : Cond.constant RX10 419 (2147483647) ∈ WS := ws_t 1686 rfl rfl
set_option maxRecDepth 100000 in
theorem kc_X10_440 : Cond.constantLong RX10 440 (16) ∈ WS := ws_t 1725 rfl rfl
set_option maxRecDepth 100000 in
theorem kc_X10_448 : Cond.constant RX10 448 (1103515245) ∈ WS := ws_t 1756 rfl rfl
set_option maxRecDepth 100000 in
theorem kc_J6_265 : Cond.constant RJ6 265 (1431655765) ∈ WS := ws_t 1053 rfl rfl
set_option maxRecDepth 100000 in
theorem kc_J6_266 : Cond.constant RJ6 266 (858993459) ∈ WS := ws_t 1054 rfl rfl
set_option maxRecDepth 100000 in
theorem kc_J6_267 : Cond.constant RJ6 267 (252645135) ∈ WS := ws_t 1055 rfl rfl
