/-! THE PURE PICTURE. A state is what each cell holds, by the cell's number and the place in it (an int array: its contents; an object: its int fields). Which cells there are, and which refer to which, is fixed: 'lay'. -/
abbrev XS : Type := Nat → Nat → Int32
abbrev EN : Type := (Nat × List (Option Nat)) ⊕ (Nat ⊕ (Nat × List Nat))
/-- the row of one cell anew -/
def xr (x : XS) (c : Nat) (f : Nat → Int32) : XS := fun j => if j = c then f else x j
/-- one place of one cell anew -/
def xu (x : XS) (c k : Nat) (v : Int32) : XS := xr x c (upd (x c) k v)
theorem xr_s {x : XS} {c : Nat} {f : Nat → Int32} : xr x c f c = f := if_pos rfl
theorem xr_n {x : XS} {c j : Nat} {f : Nat → Int32} (h : j ≠ c) : xr x c f j = x j := if_neg h
theorem xu_s {x : XS} {c k : Nat} {v : Int32} : xu x c k v c k = v := by unfold xu; rw [xr_s]; exact pk_us
theorem xu_k {x : XS} {c k j : Nat} {v : Int32} (h : j ≠ k) : xu x c k v c j = x c j := by unfold xu; rw [xr_s]; exact pk_un h
theorem xu_n {x : XS} {c k j : Nat} {v : Int32} (h : j ≠ c) : xu x c k v j = x j := xr_n h
def layL : List EN := [
  .inl (9, [some 1, some 3, some 13, some 23, some 30, some 33, some 36, some 39, some 43, some 49, some 55, some 73, some 133, some 136, none, none, none]),
  .inl (8, [some 2, none, none, none, none, none, none]), .inr (.inl 600),
  .inl (3, [none, some 4, some 5, some 6, some 7, some 8, some 9, some 10, some 11, some 12, none, none, none]),
  .inr (.inl 5), .inr (.inl 5), .inr (.inl 5), .inr (.inl 5), .inr (.inl 5), .inr (.inl 5), .inr (.inl 5), .inr (.inl 5), .inr (.inl 60),
  .inl (3, [none, some 14, some 15, some 16, some 17, some 18, some 19, some 20, some 21, some 22, none, none, none]),
  .inr (.inl 5), .inr (.inl 5), .inr (.inl 5), .inr (.inl 5), .inr (.inl 5), .inr (.inl 5), .inr (.inl 5), .inr (.inl 5), .inr (.inl 60),
  .inr (.inr (1, [24, 27])),
  .inl (5, [some 25, none, some 26]), .inr (.inl 150), .inr (.inl 32),
  .inl (5, [some 28, none, some 29]), .inr (.inl 150), .inr (.inl 32),
  .inl (5, [some 31, none, some 32]), .inr (.inl 150), .inr (.inl 32),
  .inl (1, [some 34, some 35, none]), .inr (.inl 8), .inr (.inl 8),
  .inl (1, [some 37, some 38, none]), .inr (.inl 8), .inr (.inl 8),
  .inl (7, [some 40, some 41, some 42, none, none, none, none]), .inr (.inl 150), .inr (.inl 150), .inr (.inl 150),
  .inl (6, [some 3, some 23, some 44, some 45, some 46, some 47, some 48, none, none]), .inr (.inl 42), .inr (.inl 5), .inr (.inl 5), .inr (.inl 5), .inr (.inl 9),
  .inl (6, [some 3, some 23, some 50, some 51, some 52, some 53, some 54, none, none]), .inr (.inl 42), .inr (.inl 5), .inr (.inl 5), .inr (.inl 5), .inr (.inl 9),
  .inl (2, [some 56, none]), .inr (.inr (2, [57, 58, 59, 60, 61, 62, 63, 64, 65, 66, 67, 68, 69, 70, 71, 72])),
  .inr (.inl 42), .inr (.inl 42), .inr (.inl 42), .inr (.inl 42), .inr (.inl 42), .inr (.inl 42), .inr (.inl 42), .inr (.inl 42), .inr (.inl 42), .inr (.inl 42), .inr (.inl 42), .inr (.inl 42), .inr (.inl 42), .inr (.inl 42), .inr (.inl 42), .inr (.inl 42),
  .inl (0, [some 74, some 78, none]), .inr (.inr (2, [75, 76, 77])), .inr (.inl 42), .inr (.inl 42), .inr (.inl 42), .inr (.inr (0, [79, 97, 115])),
  .inl (2, [some 80, none]), .inr (.inr (2, [81, 82, 83, 84, 85, 86, 87, 88, 89, 90, 91, 92, 93, 94, 95, 96])),
  .inr (.inl 42), .inr (.inl 42), .inr (.inl 42), .inr (.inl 42), .inr (.inl 42), .inr (.inl 42), .inr (.inl 42), .inr (.inl 42), .inr (.inl 42), .inr (.inl 42), .inr (.inl 42), .inr (.inl 42), .inr (.inl 42), .inr (.inl 42), .inr (.inl 42), .inr (.inl 42),
  .inl (2, [some 98, none]), .inr (.inr (2, [99, 100, 101, 102, 103, 104, 105, 106, 107, 108, 109, 110, 111, 112, 113, 114])),
  .inr (.inl 42), .inr (.inl 42), .inr (.inl 42), .inr (.inl 42), .inr (.inl 42), .inr (.inl 42), .inr (.inl 42), .inr (.inl 42), .inr (.inl 42), .inr (.inl 42), .inr (.inl 42), .inr (.inl 42), .inr (.inl 42), .inr (.inl 42), .inr (.inl 42), .inr (.inl 42),
  .inl (2, [some 116, none]), .inr (.inr (2, [117, 118, 119, 120, 121, 122, 123, 124, 125, 126, 127, 128, 129, 130, 131, 132])),
  .inr (.inl 42), .inr (.inl 42), .inr (.inl 42), .inr (.inl 42), .inr (.inl 42), .inr (.inl 42), .inr (.inl 42), .inr (.inl 42), .inr (.inl 42), .inr (.inl 42), .inr (.inl 42), .inr (.inl 42), .inr (.inl 42), .inr (.inl 42), .inr (.inl 42), .inr (.inl 42),
  .inl (4, [some 134, some 135, none, none, none]), .inr (.inl 81), .inr (.inl 81),
  .inr (.inl 41),
  .inl (10, [none, some 138, none, none, none, none, none, none, none, some 139, some 140, some 141, some 142, some 143, none, none, none, none, none, none, none, some 144, some 145, some 146, some 147, some 148, some 149, none, some 150, some 151, some 152, none, none, none, none, none, none, some 153, some 154, some 155, some 156, some 157, none, some 158, some 159, none, some 160, none, some 161, none, none, some 162, none]),
  .inr (.inl 2), .inr (.inl 600), .inr (.inl 40), .inr (.inl 60), .inr (.inl 40), .inr (.inl 60), .inr (.inl 150), .inr (.inl 150), .inr (.inl 300), .inr (.inl 300), .inr (.inl 2), .inr (.inl 150), .inr (.inl 9), .inr (.inl 150), .inr (.inl 150), .inr (.inl 42), .inr (.inl 42), .inr (.inl 672), .inr (.inl 5), .inr (.inl 5), .inr (.inl 16), .inr (.inl 16), .inr (.inl 162), .inr (.inl 41), .inr (.inl 2145)]
def NC : Nat := 163
def lay (c : Nat) : EN := layL.getD c (.inr (.inl 0))
theorem layL_len : layL.length = NC := by decide +kernel
/-- the geometry: class numbers and slots, the array classes, the addresses by cell number (from 1000 on strings, 1100 their bytes, 2000 static rows) -/
abbrev GG : Type := va_G × (Nat → ClassId) × (Nat → Nat)
def gD (G : GG) : va_G := G.1
def gC (G : GG) (k : Nat) : ClassId := G.2.1 k
def gA (G : GG) (c : Nat) : Nat := G.2.2 c
def fv (G : GG) (x : XS) (c k : Nat) (o : Option Nat) : Value := match o with
  | none => .int (x c k)
  | some d => .ref (gA G d)
def ent (G : GG) (x : XS) (c : Nat) : va_E := match lay c with
  | .inl (ci, t) => .inr (ci, t.mapIdx (fv G x c))
  | .inr (.inl n) => .inl (gC G 0, n, .inl (x c))
  | .inr (.inr (k, ids)) => .inl (gC G (k + 1), ids.length, .inr (.inr (.inr (.inr (fun i => (ids[i]?).map (gA G))))))
def tys (G : GG) : List (ClassId × FieldType) := [(gC G 0, .int), (gC G 1, .object "FirstAsleep$History"), (gC G 2, .object "FirstAsleep$Law"), (gC G 3, .array .int)]
def Holds (G : GG) (x : XS) (H : Heap) : Prop := ∀ c, c < NC → va_at (gD G) vwCl (gA G c, ent G x c) H
def Inj (G : GG) : Prop := ∀ i j, i < NC → j < NC → gA G i = gA G j → i = j
def AA (G : GG) (sz : Nat) : Nat → Prop := fun q => (∃ c, c < NC ∧ q = gA G c) ∨ sz ≤ q
/-- the strings that the code names -/
def strs : List (String × Nat × String) := [("FirstAsleep$House", 61, "sleeper wine cold plug owes wall over clock"), ("FirstAsleep$Law", 79, "snores wine cold depth tired heard light minute awake least most"), ("FirstAsleep$Plan", 55, "nudge turn room plug call minute again")]
def WS : List Cond := lw_tbl.filter goodWord
theorem ws_t {w : Cond} (i : Nat) (h : tables_1[i]? = some w) (hg : goodWord w = true) : w ∈ WS := List.mem_filter.mpr ⟨List.mem_append_right _ (List.mem_of_getElem? h), hg⟩
theorem ws_p {w : Cond} (i : Nat) (h : (k2_sels lw_privs)[i]? = some w) (hg : goodWord w = true) : w ∈ WS := List.mem_filter.mpr ⟨List.mem_append_left _ (List.mem_of_getElem? h), hg⟩
