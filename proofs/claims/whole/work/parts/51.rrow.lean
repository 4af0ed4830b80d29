/-! ROWS OF THE REFERENCE beside those of the spec -/
def R8 (f g : Nat → Int32) (p : Nat) : Prop := g (0 + p) = f (0 + p) ∧ g (5 + p) = f (5 + p) ∧ g (10 + p) = f (35 + p) ∧ g (15 + p) = f (10 + p) ∧ g (20 + p) = f (15 + p) ∧ g (30 + p) = f (25 + p) ∧ g (35 + p) = f (30 + p) ∧ (0 < f (10 + p) → f (15 + p) = nI 1 → g (25 + p) = f (20 + p))
def RRow (f g : Nat → Int32) : Prop := (∀ p, p < 5 → R8 f g p) ∧ g 40 = f 40 ∧ g 41 = f 41
theorem upd_id {f : Nat → Int32} {k : Nat} {v : Int32} (h : v = f k) : upd f k v = f := by
  funext j
  unfold upd
  split
  · next e => rw [e, h]
  · rfl
section RowsR
variable {f g : Nat → Int32} {p : Nat} {v : Int32}
theorem RRow.tired (h : RRow f g) (hp : p < 5) : RRow (upd f (0 + p) v) (upd g (0 + p) v) := by
  refine ⟨fun p9 hp9 => ?_, ?_, ?_⟩
  · obtain ⟨e1, e2, e3, e4, e5, e6, e7, e8⟩ := h.1 p9 hp9
    by_cases e : p9 = p
    · subst e
      refine ⟨?_, ?_, ?_, ?_, ?_, ?_, ?_, ?_⟩
      · rw [pk_us, pk_us]
      · rw [pk_un (by omega), pk_un (by omega)]; exact e2
      · rw [pk_un (by omega), pk_un (by omega)]; exact e3
      · rw [pk_un (by omega), pk_un (by omega)]; exact e4
      · rw [pk_un (by omega), pk_un (by omega)]; exact e5
      · rw [pk_un (by omega), pk_un (by omega)]; exact e6
      · rw [pk_un (by omega), pk_un (by omega)]; exact e7
      · rw [pk_un (by omega), pk_un (by omega), pk_un (by omega), pk_un (by omega)]; exact e8
    · refine ⟨?_, ?_, ?_, ?_, ?_, ?_, ?_, ?_⟩
      · rw [pk_un (by omega), pk_un (by omega)]; exact e1
      · rw [pk_un (by omega), pk_un (by omega)]; exact e2
      · rw [pk_un (by omega), pk_un (by omega)]; exact e3
      · rw [pk_un (by omega), pk_un (by omega)]; exact e4
      · rw [pk_un (by omega), pk_un (by omega)]; exact e5
      · rw [pk_un (by omega), pk_un (by omega)]; exact e6
      · rw [pk_un (by omega), pk_un (by omega)]; exact e7
      · rw [pk_un (by omega), pk_un (by omega), pk_un (by omega), pk_un (by omega)]; exact e8
  · rw [pk_un (by omega), pk_un (by omega)]; exact h.2.1
  · rw [pk_un (by omega), pk_un (by omega)]; exact h.2.2
theorem RRow.room (h : RRow f g) (hp : p < 5) : RRow (upd f (5 + p) v) (upd g (5 + p) v) := by
  refine ⟨fun p9 hp9 => ?_, ?_, ?_⟩
  · obtain ⟨e1, e2, e3, e4, e5, e6, e7, e8⟩ := h.1 p9 hp9
    by_cases e : p9 = p
    · subst e
      refine ⟨?_, ?_, ?_, ?_, ?_, ?_, ?_, ?_⟩
      · rw [pk_un (by omega), pk_un (by omega)]; exact e1
      · rw [pk_us, pk_us]
      · rw [pk_un (by omega), pk_un (by omega)]; exact e3
      · rw [pk_un (by omega), pk_un (by omega)]; exact e4
      · rw [pk_un (by omega), pk_un (by omega)]; exact e5
      · rw [pk_un (by omega), pk_un (by omega)]; exact e6
      · rw [pk_un (by omega), pk_un (by omega)]; exact e7
      · rw [pk_un (by omega), pk_un (by omega), pk_un (by omega), pk_un (by omega)]; exact e8
    · refine ⟨?_, ?_, ?_, ?_, ?_, ?_, ?_, ?_⟩
      · rw [pk_un (by omega), pk_un (by omega)]; exact e1
      · rw [pk_un (by omega), pk_un (by omega)]; exact e2
      · rw [pk_un (by omega), pk_un (by omega)]; exact e3
      · rw [pk_un (by omega), pk_un (by omega)]; exact e4
      · rw [pk_un (by omega), pk_un (by omega)]; exact e5
      · rw [pk_un (by omega), pk_un (by omega)]; exact e6
      · rw [pk_un (by omega), pk_un (by omega)]; exact e7
      · rw [pk_un (by omega), pk_un (by omega), pk_un (by omega), pk_un (by omega)]; exact e8
  · rw [pk_un (by omega), pk_un (by omega)]; exact h.2.1
  · rw [pk_un (by omega), pk_un (by omega)]; exact h.2.2
theorem RRow.plugs (h : RRow f g) (hp : p < 5) : RRow (upd f (35 + p) v) (upd g (10 + p) v) := by
  refine ⟨fun p9 hp9 => ?_, ?_, ?_⟩
  · obtain ⟨e1, e2, e3, e4, e5, e6, e7, e8⟩ := h.1 p9 hp9
    by_cases e : p9 = p
    · subst e
      refine ⟨?_, ?_, ?_, ?_, ?_, ?_, ?_, ?_⟩
      · rw [pk_un (by omega), pk_un (by omega)]; exact e1
      · rw [pk_un (by omega), pk_un (by omega)]; exact e2
      · rw [pk_us, pk_us]
      · rw [pk_un (by omega), pk_un (by omega)]; exact e4
      · rw [pk_un (by omega), pk_un (by omega)]; exact e5
      · rw [pk_un (by omega), pk_un (by omega)]; exact e6
      · rw [pk_un (by omega), pk_un (by omega)]; exact e7
      · rw [pk_un (by omega), pk_un (by omega), pk_un (by omega), pk_un (by omega)]; exact e8
    · refine ⟨?_, ?_, ?_, ?_, ?_, ?_, ?_, ?_⟩
      · rw [pk_un (by omega), pk_un (by omega)]; exact e1
      · rw [pk_un (by omega), pk_un (by omega)]; exact e2
      · rw [pk_un (by omega), pk_un (by omega)]; exact e3
      · rw [pk_un (by omega), pk_un (by omega)]; exact e4
      · rw [pk_un (by omega), pk_un (by omega)]; exact e5
      · rw [pk_un (by omega), pk_un (by omega)]; exact e6
      · rw [pk_un (by omega), pk_un (by omega)]; exact e7
      · rw [pk_un (by omega), pk_un (by omega), pk_un (by omega), pk_un (by omega)]; exact e8
  · rw [pk_un (by omega), pk_un (by omega)]; exact h.2.1
  · rw [pk_un (by omega), pk_un (by omega)]; exact h.2.2
theorem RRow.slept (h : RRow f g) (hp : p < 5) : RRow (upd f (25 + p) v) (upd g (30 + p) v) := by
  refine ⟨fun p9 hp9 => ?_, ?_, ?_⟩
  · obtain ⟨e1, e2, e3, e4, e5, e6, e7, e8⟩ := h.1 p9 hp9
    by_cases e : p9 = p
    · subst e
      refine ⟨?_, ?_, ?_, ?_, ?_, ?_, ?_, ?_⟩
      · rw [pk_un (by omega), pk_un (by omega)]; exact e1
      · rw [pk_un (by omega), pk_un (by omega)]; exact e2
      · rw [pk_un (by omega), pk_un (by omega)]; exact e3
      · rw [pk_un (by omega), pk_un (by omega)]; exact e4
      · rw [pk_un (by omega), pk_un (by omega)]; exact e5
      · rw [pk_us, pk_us]
      · rw [pk_un (by omega), pk_un (by omega)]; exact e7
      · rw [pk_un (by omega), pk_un (by omega), pk_un (by omega), pk_un (by omega)]; exact e8
    · refine ⟨?_, ?_, ?_, ?_, ?_, ?_, ?_, ?_⟩
      · rw [pk_un (by omega), pk_un (by omega)]; exact e1
      · rw [pk_un (by omega), pk_un (by omega)]; exact e2
      · rw [pk_un (by omega), pk_un (by omega)]; exact e3
      · rw [pk_un (by omega), pk_un (by omega)]; exact e4
      · rw [pk_un (by omega), pk_un (by omega)]; exact e5
      · rw [pk_un (by omega), pk_un (by omega)]; exact e6
      · rw [pk_un (by omega), pk_un (by omega)]; exact e7
      · rw [pk_un (by omega), pk_un (by omega), pk_un (by omega), pk_un (by omega)]; exact e8
  · rw [pk_un (by omega), pk_un (by omega)]; exact h.2.1
  · rw [pk_un (by omega), pk_un (by omega)]; exact h.2.2
theorem RRow.awake (h : RRow f g) (hp : p < 5) : RRow (upd f (30 + p) v) (upd g (35 + p) v) := by
  refine ⟨fun p9 hp9 => ?_, ?_, ?_⟩
  · obtain ⟨e1, e2, e3, e4, e5, e6, e7, e8⟩ := h.1 p9 hp9
    by_cases e : p9 = p
    · subst e
      refine ⟨?_, ?_, ?_, ?_, ?_, ?_, ?_, ?_⟩
      · rw [pk_un (by omega), pk_un (by omega)]; exact e1
      · rw [pk_un (by omega), pk_un (by omega)]; exact e2
      · rw [pk_un (by omega), pk_un (by omega)]; exact e3
      · rw [pk_un (by omega), pk_un (by omega)]; exact e4
      · rw [pk_un (by omega), pk_un (by omega)]; exact e5
      · rw [pk_un (by omega), pk_un (by omega)]; exact e6
      · rw [pk_us, pk_us]
      · rw [pk_un (by omega), pk_un (by omega), pk_un (by omega), pk_un (by omega)]; exact e8
    · refine ⟨?_, ?_, ?_, ?_, ?_, ?_, ?_, ?_⟩
      · rw [pk_un (by omega), pk_un (by omega)]; exact e1
      · rw [pk_un (by omega), pk_un (by omega)]; exact e2
      · rw [pk_un (by omega), pk_un (by omega)]; exact e3
      · rw [pk_un (by omega), pk_un (by omega)]; exact e4
      · rw [pk_un (by omega), pk_un (by omega)]; exact e5
      · rw [pk_un (by omega), pk_un (by omega)]; exact e6
      · rw [pk_un (by omega), pk_un (by omega)]; exact e7
      · rw [pk_un (by omega), pk_un (by omega), pk_un (by omega), pk_un (by omega)]; exact e8
  · rw [pk_un (by omega), pk_un (by omega)]; exact h.2.1
  · rw [pk_un (by omega), pk_un (by omega)]; exact h.2.2
theorem RRow.depth (h : RRow f g) (hp : p < 5) (hl : 0 < v → f (15 + p) = nI 1 → g (25 + p) = f (20 + p)) : RRow (upd f (10 + p) v) (upd g (15 + p) v) := by
  refine ⟨fun p9 hp9 => ?_, ?_, ?_⟩
  · obtain ⟨e1, e2, e3, e4, e5, e6, e7, e8⟩ := h.1 p9 hp9
    by_cases e : p9 = p
    · subst e
      refine ⟨?_, ?_, ?_, ?_, ?_, ?_, ?_, ?_⟩
      · rw [pk_un (by omega), pk_un (by omega)]; exact e1
      · rw [pk_un (by omega), pk_un (by omega)]; exact e2
      · rw [pk_un (by omega), pk_un (by omega)]; exact e3
      · rw [pk_us, pk_us]
      · rw [pk_un (by omega), pk_un (by omega)]; exact e5
      · rw [pk_un (by omega), pk_un (by omega)]; exact e6
      · rw [pk_un (by omega), pk_un (by omega)]; exact e7
      · rw [pk_us, pk_un (by omega), pk_un (by omega), pk_un (by omega)]; exact hl
    · refine ⟨?_, ?_, ?_, ?_, ?_, ?_, ?_, ?_⟩
      · rw [pk_un (by omega), pk_un (by omega)]; exact e1
      · rw [pk_un (by omega), pk_un (by omega)]; exact e2
      · rw [pk_un (by omega), pk_un (by omega)]; exact e3
      · rw [pk_un (by omega), pk_un (by omega)]; exact e4
      · rw [pk_un (by omega), pk_un (by omega)]; exact e5
      · rw [pk_un (by omega), pk_un (by omega)]; exact e6
      · rw [pk_un (by omega), pk_un (by omega)]; exact e7
      · rw [pk_un (by omega), pk_un (by omega), pk_un (by omega), pk_un (by omega)]; exact e8
  · rw [pk_un (by omega), pk_un (by omega)]; exact h.2.1
  · rw [pk_un (by omega), pk_un (by omega)]; exact h.2.2
theorem RRow.side (h : RRow f g) (hp : p < 5) (hl : 0 < f (10 + p) → v = nI 1 → g (25 + p) = f (20 + p)) : RRow (upd f (15 + p) v) (upd g (20 + p) v) := by
  refine ⟨fun p9 hp9 => ?_, ?_, ?_⟩
  · obtain ⟨e1, e2, e3, e4, e5, e6, e7, e8⟩ := h.1 p9 hp9
    by_cases e : p9 = p
    · subst e
      refine ⟨?_, ?_, ?_, ?_, ?_, ?_, ?_, ?_⟩
      · rw [pk_un (by omega), pk_un (by omega)]; exact e1
      · rw [pk_un (by omega), pk_un (by omega)]; exact e2
      · rw [pk_un (by omega), pk_un (by omega)]; exact e3
      · rw [pk_un (by omega), pk_un (by omega)]; exact e4
      · rw [pk_us, pk_us]
      · rw [pk_un (by omega), pk_un (by omega)]; exact e6
      · rw [pk_un (by omega), pk_un (by omega)]; exact e7
      · rw [pk_un (by omega), pk_us, pk_un (by omega), pk_un (by omega)]; exact hl
    · refine ⟨?_, ?_, ?_, ?_, ?_, ?_, ?_, ?_⟩
      · rw [pk_un (by omega), pk_un (by omega)]; exact e1
      · rw [pk_un (by omega), pk_un (by omega)]; exact e2
      · rw [pk_un (by omega), pk_un (by omega)]; exact e3
      · rw [pk_un (by omega), pk_un (by omega)]; exact e4
      · rw [pk_un (by omega), pk_un (by omega)]; exact e5
      · rw [pk_un (by omega), pk_un (by omega)]; exact e6
      · rw [pk_un (by omega), pk_un (by omega)]; exact e7
      · rw [pk_un (by omega), pk_un (by omega), pk_un (by omega), pk_un (by omega)]; exact e8
  · rw [pk_un (by omega), pk_un (by omega)]; exact h.2.1
  · rw [pk_un (by omega), pk_un (by omega)]; exact h.2.2
theorem RRow.lain (h : RRow f g) (hp : p < 5) : RRow (upd f (20 + p) v) (upd g (25 + p) v) := by
  refine ⟨fun p9 hp9 => ?_, ?_, ?_⟩
  · obtain ⟨e1, e2, e3, e4, e5, e6, e7, e8⟩ := h.1 p9 hp9
    by_cases e : p9 = p
    · subst e
      refine ⟨?_, ?_, ?_, ?_, ?_, ?_, ?_, ?_⟩
      · rw [pk_un (by omega), pk_un (by omega)]; exact e1
      · rw [pk_un (by omega), pk_un (by omega)]; exact e2
      · rw [pk_un (by omega), pk_un (by omega)]; exact e3
      · rw [pk_un (by omega), pk_un (by omega)]; exact e4
      · rw [pk_un (by omega), pk_un (by omega)]; exact e5
      · rw [pk_un (by omega), pk_un (by omega)]; exact e6
      · rw [pk_un (by omega), pk_un (by omega)]; exact e7
      · rw [pk_un (by omega), pk_un (by omega), pk_us, pk_us]; exact fun _ _ => rfl
    · refine ⟨?_, ?_, ?_, ?_, ?_, ?_, ?_, ?_⟩
      · rw [pk_un (by omega), pk_un (by omega)]; exact e1
      · rw [pk_un (by omega), pk_un (by omega)]; exact e2
      · rw [pk_un (by omega), pk_un (by omega)]; exact e3
      · rw [pk_un (by omega), pk_un (by omega)]; exact e4
      · rw [pk_un (by omega), pk_un (by omega)]; exact e5
      · rw [pk_un (by omega), pk_un (by omega)]; exact e6
      · rw [pk_un (by omega), pk_un (by omega)]; exact e7
      · rw [pk_un (by omega), pk_un (by omega), pk_un (by omega), pk_un (by omega)]; exact e8
  · rw [pk_un (by omega), pk_un (by omega)]; exact h.2.1
  · rw [pk_un (by omega), pk_un (by omega)]; exact h.2.2
theorem RRow.lainG (h : RRow f g) (hp : p < 5) (hl : ¬ (0 < f (10 + p) ∧ f (15 + p) = nI 1)) : RRow f (upd g (25 + p) v) := by
  refine ⟨fun p9 hp9 => ?_, ?_, ?_⟩
  · obtain ⟨e1, e2, e3, e4, e5, e6, e7, e8⟩ := h.1 p9 hp9
    by_cases e : p9 = p
    · subst e
      refine ⟨?_, ?_, ?_, ?_, ?_, ?_, ?_, ?_⟩
      · rw [pk_un (by omega)]; exact e1
      · rw [pk_un (by omega)]; exact e2
      · rw [pk_un (by omega)]; exact e3
      · rw [pk_un (by omega)]; exact e4
      · rw [pk_un (by omega)]; exact e5
      · rw [pk_un (by omega)]; exact e6
      · rw [pk_un (by omega)]; exact e7
      · exact fun a b => absurd ⟨a, b⟩ hl
    · refine ⟨?_, ?_, ?_, ?_, ?_, ?_, ?_, ?_⟩
      · rw [pk_un (by omega)]; exact e1
      · rw [pk_un (by omega)]; exact e2
      · rw [pk_un (by omega)]; exact e3
      · rw [pk_un (by omega)]; exact e4
      · rw [pk_un (by omega)]; exact e5
      · rw [pk_un (by omega)]; exact e6
      · rw [pk_un (by omega)]; exact e7
      · rw [pk_un (by omega)]; exact e8
  · rw [pk_un (by omega)]; exact h.2.1
  · rw [pk_un (by omega)]; exact h.2.2
theorem RRow.lainF (h : RRow f g) (hp : p < 5) (hl : ¬ (0 < f (10 + p) ∧ f (15 + p) = nI 1)) : RRow (upd f (20 + p) v) g := by
  refine ⟨fun p9 hp9 => ?_, ?_, ?_⟩
  · obtain ⟨e1, e2, e3, e4, e5, e6, e7, e8⟩ := h.1 p9 hp9
    by_cases e : p9 = p
    · subst e
      refine ⟨?_, ?_, ?_, ?_, ?_, ?_, ?_, ?_⟩
      · rw [pk_un (by omega)]; exact e1
      · rw [pk_un (by omega)]; exact e2
      · rw [pk_un (by omega)]; exact e3
      · rw [pk_un (by omega)]; exact e4
      · rw [pk_un (by omega)]; exact e5
      · rw [pk_un (by omega)]; exact e6
      · rw [pk_un (by omega)]; exact e7
      · rw [pk_un (by omega), pk_un (by omega)]; exact fun a b => absurd ⟨a, b⟩ hl
    · refine ⟨?_, ?_, ?_, ?_, ?_, ?_, ?_, ?_⟩
      · rw [pk_un (by omega)]; exact e1
      · rw [pk_un (by omega)]; exact e2
      · rw [pk_un (by omega)]; exact e3
      · rw [pk_un (by omega)]; exact e4
      · rw [pk_un (by omega)]; exact e5
      · rw [pk_un (by omega)]; exact e6
      · rw [pk_un (by omega)]; exact e7
      · rw [pk_un (by omega), pk_un (by omega), pk_un (by omega)]; exact e8
  · rw [pk_un (by omega)]; exact h.2.1
  · rw [pk_un (by omega)]; exact h.2.2
theorem RRow.at40 (h : RRow f g) : RRow (upd f 40 v) (upd g 40 v) := by
  refine ⟨fun p9 hp9 => ?_, by rw [pk_us, pk_us], by rw [pk_un (by decide), pk_un (by decide)]; exact h.2.2⟩
  obtain ⟨e1, e2, e3, e4, e5, e6, e7, e8⟩ := h.1 p9 hp9
  refine ⟨?_, ?_, ?_, ?_, ?_, ?_, ?_, ?_⟩
  · rw [pk_un (by omega), pk_un (by omega)]; exact e1
  · rw [pk_un (by omega), pk_un (by omega)]; exact e2
  · rw [pk_un (by omega), pk_un (by omega)]; exact e3
  · rw [pk_un (by omega), pk_un (by omega)]; exact e4
  · rw [pk_un (by omega), pk_un (by omega)]; exact e5
  · rw [pk_un (by omega), pk_un (by omega)]; exact e6
  · rw [pk_un (by omega), pk_un (by omega)]; exact e7
  · rw [pk_un (by omega), pk_un (by omega), pk_un (by omega), pk_un (by omega)]; exact e8
theorem RRow.at41 (h : RRow f g) : RRow (upd f 41 v) (upd g 41 v) := by
  refine ⟨fun p9 hp9 => ?_, by rw [pk_un (by decide), pk_un (by decide)]; exact h.2.1, by rw [pk_us, pk_us]⟩
  obtain ⟨e1, e2, e3, e4, e5, e6, e7, e8⟩ := h.1 p9 hp9
  refine ⟨?_, ?_, ?_, ?_, ?_, ?_, ?_, ?_⟩
  · rw [pk_un (by omega), pk_un (by omega)]; exact e1
  · rw [pk_un (by omega), pk_un (by omega)]; exact e2
  · rw [pk_un (by omega), pk_un (by omega)]; exact e3
  · rw [pk_un (by omega), pk_un (by omega)]; exact e4
  · rw [pk_un (by omega), pk_un (by omega)]; exact e5
  · rw [pk_un (by omega), pk_un (by omega)]; exact e6
  · rw [pk_un (by omega), pk_un (by omega)]; exact e7
  · rw [pk_un (by omega), pk_un (by omega), pk_un (by omega), pk_un (by omega)]; exact e8
theorem RO.tired (h : RO f) (hp : p < 5) (hv : ∃ k, k ≤ 99 ∧ v = nI k) : RO (upd f (0 + p) v) := by
  obtain ⟨⟨t, ht, e⟩, h2⟩ := h
  refine ⟨⟨t, ht, by rw [pk_un (by omega)]; exact e⟩, fun p9 hp9 => ?_⟩
  obtain ⟨e1, e2, e3, e4⟩ := h2 p9 hp9
  by_cases e : p9 = p
  · subst e
    refine ⟨?_, ?_, ?_, ?_⟩
    · rw [pk_us]; exact hv
    · rw [pk_un (by omega)]; exact e2
    · rw [pk_un (by omega)]; exact e3
    · rw [pk_un (by omega)]; exact e4
  · refine ⟨?_, ?_, ?_, ?_⟩
    · rw [pk_un (by omega)]; exact e1
    · rw [pk_un (by omega)]; exact e2
    · rw [pk_un (by omega)]; exact e3
    · rw [pk_un (by omega)]; exact e4
theorem RO.room (h : RO f) (hp : p < 5) (hv : ∃ k, k ≤ 1 ∧ v = nI k) : RO (upd f (5 + p) v) := by
  obtain ⟨⟨t, ht, e⟩, h2⟩ := h
  refine ⟨⟨t, ht, by rw [pk_un (by omega)]; exact e⟩, fun p9 hp9 => ?_⟩
  obtain ⟨e1, e2, e3, e4⟩ := h2 p9 hp9
  by_cases e : p9 = p
  · subst e
    refine ⟨?_, ?_, ?_, ?_⟩
    · rw [pk_un (by omega)]; exact e1
    · rw [pk_us]; exact hv
    · rw [pk_un (by omega)]; exact e3
    · rw [pk_un (by omega)]; exact e4
  · refine ⟨?_, ?_, ?_, ?_⟩
    · rw [pk_un (by omega)]; exact e1
    · rw [pk_un (by omega)]; exact e2
    · rw [pk_un (by omega)]; exact e3
    · rw [pk_un (by omega)]; exact e4
theorem RO.depth (h : RO f) (hp : p < 5) (hv : ∃ k, k ≤ 9 ∧ v = nI k) : RO (upd f (10 + p) v) := by
  obtain ⟨⟨t, ht, e⟩, h2⟩ := h
  refine ⟨⟨t, ht, by rw [pk_un (by omega)]; exact e⟩, fun p9 hp9 => ?_⟩
  obtain ⟨e1, e2, e3, e4⟩ := h2 p9 hp9
  by_cases e : p9 = p
  · subst e
    refine ⟨?_, ?_, ?_, ?_⟩
    · rw [pk_un (by omega)]; exact e1
    · rw [pk_un (by omega)]; exact e2
    · rw [pk_us]; exact hv
    · rw [pk_un (by omega)]; exact e4
  · refine ⟨?_, ?_, ?_, ?_⟩
    · rw [pk_un (by omega)]; exact e1
    · rw [pk_un (by omega)]; exact e2
    · rw [pk_un (by omega)]; exact e3
    · rw [pk_un (by omega)]; exact e4
theorem RO.side (h : RO f) (hp : p < 5) (hv : ∃ k, k ≤ 1 ∧ v = nI k) : RO (upd f (15 + p) v) := by
  obtain ⟨⟨t, ht, e⟩, h2⟩ := h
  refine ⟨⟨t, ht, by rw [pk_un (by omega)]; exact e⟩, fun p9 hp9 => ?_⟩
  obtain ⟨e1, e2, e3, e4⟩ := h2 p9 hp9
  by_cases e : p9 = p
  · subst e
    refine ⟨?_, ?_, ?_, ?_⟩
    · rw [pk_un (by omega)]; exact e1
    · rw [pk_un (by omega)]; exact e2
    · rw [pk_un (by omega)]; exact e3
    · rw [pk_us]; exact hv
  · refine ⟨?_, ?_, ?_, ?_⟩
    · rw [pk_un (by omega)]; exact e1
    · rw [pk_un (by omega)]; exact e2
    · rw [pk_un (by omega)]; exact e3
    · rw [pk_un (by omega)]; exact e4
theorem RO.lain (h : RO f) (hp : p < 5) : RO (upd f (20 + p) v) := by
  obtain ⟨⟨t, ht, e⟩, h2⟩ := h
  refine ⟨⟨t, ht, by rw [pk_un (by omega)]; exact e⟩, fun p9 hp9 => ?_⟩
  obtain ⟨e1, e2, e3, e4⟩ := h2 p9 hp9
  by_cases e : p9 = p
  · subst e
    refine ⟨?_, ?_, ?_, ?_⟩
    · rw [pk_un (by omega)]; exact e1
    · rw [pk_un (by omega)]; exact e2
    · rw [pk_un (by omega)]; exact e3
    · rw [pk_un (by omega)]; exact e4
  · refine ⟨?_, ?_, ?_, ?_⟩
    · rw [pk_un (by omega)]; exact e1
    · rw [pk_un (by omega)]; exact e2
    · rw [pk_un (by omega)]; exact e3
    · rw [pk_un (by omega)]; exact e4
theorem RO.slept (h : RO f) (hp : p < 5) : RO (upd f (25 + p) v) := by
  obtain ⟨⟨t, ht, e⟩, h2⟩ := h
  refine ⟨⟨t, ht, by rw [pk_un (by omega)]; exact e⟩, fun p9 hp9 => ?_⟩
  obtain ⟨e1, e2, e3, e4⟩ := h2 p9 hp9
  by_cases e : p9 = p
  · subst e
    refine ⟨?_, ?_, ?_, ?_⟩
    · rw [pk_un (by omega)]; exact e1
    · rw [pk_un (by omega)]; exact e2
    · rw [pk_un (by omega)]; exact e3
    · rw [pk_un (by omega)]; exact e4
  · refine ⟨?_, ?_, ?_, ?_⟩
    · rw [pk_un (by omega)]; exact e1
    · rw [pk_un (by omega)]; exact e2
    · rw [pk_un (by omega)]; exact e3
    · rw [pk_un (by omega)]; exact e4
theorem RO.awake (h : RO f) (hp : p < 5) : RO (upd f (30 + p) v) := by
  obtain ⟨⟨t, ht, e⟩, h2⟩ := h
  refine ⟨⟨t, ht, by rw [pk_un (by omega)]; exact e⟩, fun p9 hp9 => ?_⟩
  obtain ⟨e1, e2, e3, e4⟩ := h2 p9 hp9
  by_cases e : p9 = p
  · subst e
    refine ⟨?_, ?_, ?_, ?_⟩
    · rw [pk_un (by omega)]; exact e1
    · rw [pk_un (by omega)]; exact e2
    · rw [pk_un (by omega)]; exact e3
    · rw [pk_un (by omega)]; exact e4
  · refine ⟨?_, ?_, ?_, ?_⟩
    · rw [pk_un (by omega)]; exact e1
    · rw [pk_un (by omega)]; exact e2
    · rw [pk_un (by omega)]; exact e3
    · rw [pk_un (by omega)]; exact e4
theorem RO.plugs (h : RO f) (hp : p < 5) : RO (upd f (35 + p) v) := by
  obtain ⟨⟨t, ht, e⟩, h2⟩ := h
  refine ⟨⟨t, ht, by rw [pk_un (by omega)]; exact e⟩, fun p9 hp9 => ?_⟩
  obtain ⟨e1, e2, e3, e4⟩ := h2 p9 hp9
  by_cases e : p9 = p
  · subst e
    refine ⟨?_, ?_, ?_, ?_⟩
    · rw [pk_un (by omega)]; exact e1
    · rw [pk_un (by omega)]; exact e2
    · rw [pk_un (by omega)]; exact e3
    · rw [pk_un (by omega)]; exact e4
  · refine ⟨?_, ?_, ?_, ?_⟩
    · rw [pk_un (by omega)]; exact e1
    · rw [pk_un (by omega)]; exact e2
    · rw [pk_un (by omega)]; exact e3
    · rw [pk_un (by omega)]; exact e4
theorem RO.at40 (h : RO f) (hv : ∃ t, t ≤ 240 ∧ v = nI t) : RO (upd f 40 v) := by
  refine ⟨by rw [pk_us]; exact hv, fun p9 hp9 => ?_⟩
  obtain ⟨e1, e2, e3, e4⟩ := h.2 p9 hp9
  refine ⟨?_, ?_, ?_, ?_⟩
  · rw [pk_un (by omega)]; exact e1
  · rw [pk_un (by omega)]; exact e2
  · rw [pk_un (by omega)]; exact e3
  · rw [pk_un (by omega)]; exact e4
theorem RO.at41 (h : RO f) : RO (upd f 41 v) := by
  refine ⟨by rw [pk_un (by decide)]; exact h.1, fun p9 hp9 => ?_⟩
  obtain ⟨e1, e2, e3, e4⟩ := h.2 p9 hp9
  refine ⟨?_, ?_, ?_, ?_⟩
  · rw [pk_un (by omega)]; exact e1
  · rw [pk_un (by omega)]; exact e2
  · rw [pk_un (by omega)]; exact e3
  · rw [pk_un (by omega)]; exact e4
end RowsR
/-! what the reference does to its row -/
def wkG (g : Nat → Int32) (p : Nat) : Nat → Int32 :=
  let h := upd (upd (upd (upd g (15 + p) (nI 0)) (20 + p) (nI 0)) (25 + p) (nI 0)) (35 + p) (nI 0)
  upd h 41 (h 41 + nI 1)
def liG (g : Nat → Int32) (p : Nat) (b : Bool) : Nat → Int32 :=
  if b then upd (upd (upd g (15 + p) (nI 1)) (25 + p) (nI 0)) (35 + p) (nI 0)
  else
    let h := if g (0 + p) < nI 99 then upd g (0 + p) (g (0 + p) + nI 1) else g
    upd h (35 + p) (h (35 + p) + nI 1)
def soG (ov : Int32) (g : Nat → Int32) (p : Nat) : Nat → Int32 :=
  let h1 := if g (15 + p) < nI 9 then upd g (15 + p) (g (15 + p) + nI 1) else g
  let h2 := if 0 < h1 (0 + p) then upd h1 (0 + p) (h1 (0 + p) - nI 1) else h1
  let h3 := upd h2 (30 + p) (h2 (30 + p) + nI 1)
  if h3 (20 + p) = 0 then h3 else
    let h4 := upd h3 (25 + p) (h3 (25 + p) + nI 1)
    if h4 (25 + p) < ov then h4 else upd (upd h4 (20 + p) (nI 0)) (25 + p) (nI 0)
def ngB (g : Nat → Int32) (p q : Nat) : Bool := !decide (0 < g (15 + p)) && decide (0 < g (15 + q)) && decide (g (5 + p) = g (5 + q)) && !decide (g (20 + q) = nI 1)
def ngG (g : Nat → Int32) (p q : Nat) : Nat → Int32 := if ngB g p q then (if nI 2 < g (15 + q) then upd (upd (upd g (15 + q) (g (15 + q) - nI 2)) (20 + q) (nI 1)) (25 + q) (nI 0) else wkG g q) else g
theorem wk_RR {f g : Nat → Int32} {p : Nat} (h : RRow f g) (hp : p < 5) : RRow (wakeR f p) (wkG g p) := by
  have h1 := (h.depth (v := nI 0) hp (fun q => absurd q (by decide +kernel)))
  have h2 := h1.side (v := nI 0) hp (fun _ q => absurd q (by decide +kernel))
  have h3 := h2.lainG (v := nI 0) hp (fun q => absurd (show nI 0 = nI 1 by have := q.2; rw [pk_us] at this; exact this) (by decide +kernel))
  have h4 := h3.awake (v := nI 0) hp
  unfold wakeR wkG
  dsimp only
  rw [show upd (upd (upd f (10 + p) (nI 0)) (15 + p) (nI 0)) (30 + p) (nI 0) 41 = upd (upd (upd (upd g (15 + p) (nI 0)) (20 + p) (nI 0)) (25 + p) (nI 0)) (35 + p) (nI 0) 41 from h4.2.2.symm]
  exact h4.at41
theorem wk_RO {f : Nat → Int32} {p : Nat} (h : RO f) (hp : p < 5) : RO (wakeR f p) := (((h.depth hp ⟨0, by decide, rfl⟩).side hp ⟨0, by decide, rfl⟩).awake hp).at41
theorem li_RR {f g : Nat → Int32} {p : Nat} {b : Bool} (h : RRow f g) (ho : RO f) (hp : p < 5) (hd : f (10 + p) = nI 0) : RRow (stayR f p b) (liG g p b) := by
  have e := (h.1 p hp)
  obtain ⟨k, hk, ek⟩ := (ho.2 p hp).1
  unfold stayR liG
  cases b with
  | true =>
    rw [if_pos rfl, if_pos rfl]
    have h0 := h.lain (p := p) (v := nI 0) hp
    have h1 := h0.depth (v := nI 1) hp (fun _ _ => by rw [pk_us, pk_us])
    have h2 := h1.awake (v := nI 0) hp
    have c1 : upd (upd f (20 + p) (nI 0)) (10 + p) (nI 1) = upd (upd f (10 + p) (nI 1)) (20 + p) (nI 0) := by
      funext j; unfold upd; by_cases a : j = 10 + p
      · rw [if_pos a, if_neg (by omega), if_pos a]
      · rw [if_neg a]; by_cases b : j = 20 + p
        · rw [if_pos b, if_pos b]
        · rw [if_neg b, if_neg b, if_neg a]
    have c2 : upd (upd g (25 + p) (nI 0)) (15 + p) (nI 1) = upd (upd g (15 + p) (nI 1)) (25 + p) (nI 0) := by
      funext j; unfold upd; by_cases a : j = 15 + p
      · rw [if_pos a, if_neg (by omega), if_pos a]
      · rw [if_neg a]; by_cases b : j = 25 + p
        · rw [if_pos b, if_pos b]
        · rw [if_neg b, if_neg b, if_neg a]
    rw [c1, c2] at h2
    exact h2
  | false =>
    rw [if_neg (by decide), if_neg (by decide)]
    dsimp only
    have key : RRow (upd f (0 + p) (imin (nI 99) (f (0 + p) + nI 1))) (if g (0 + p) < nI 99 then upd g (0 + p) (g (0 + p) + nI 1) else g) := by
      rw [e.1, ek]
      by_cases hl : k < 99
      · rw [if_pos (nI_lt hl (by decide)), nI_1', imin_N (by omega) (by omega), show min 99 (k + 1) = k + 1 by omega]
        exact h.tired hp
      · rw [if_neg (nI_nlt (by omega) (by omega)), nI_1', imin_N (by omega) (by omega), upd_id (by rw [ek]; congr 1; omega)]
        exact h
    have e7 := (key.1 p hp).2.2.2.2.2.2.1
    rw [e7]
    exact key.awake hp
theorem st_RO {f : Nat → Int32} {p : Nat} {b : Bool} (h : RO f) (hp : p < 5) : RO (stayR f p b) := by
  obtain ⟨k, hk, ek⟩ := (h.2 p hp).1
  unfold stayR
  dsimp only
  split
  · exact ((h.depth hp ⟨1, by decide, rfl⟩).lain hp).awake hp
  · refine (h.tired hp ?_).awake hp
    rw [ek, nI_1', imin_N (by omega) (by omega)]
    exact ⟨_, by omega, rfl⟩
theorem so_RR {f g : Nat → Int32} {p : Nat} {li ov he : Int32} (h : RRow f g) (ho : RO f) (hp : p < 5) (ha : 0 < f (10 + p)) (hh : he ≤ li + f (10 + p)) : RRow (slpR li ov f p he) (soG ov g p) := by
  obtain ⟨⟨k, hk, ek⟩, _, ⟨d, hd, ed⟩, ⟨s, hs, es⟩⟩ := ho.2 p hp
  have e := h.1 p hp
  have d0 : 0 < d := by
    rw [ed] at ha
    exact (nI_ltI (by decide) (by omega)).mp (show nI 0 < nI d from ha)
  unfold slpR soG
  rw [if_pos hh]
  dsimp only
  have k1 : RRow (upd f (10 + p) (imin (nI 9) (f (10 + p) + nI 1))) (if g (15 + p) < nI 9 then upd g (15 + p) (g (15 + p) + nI 1) else g) := by
    rw [e.2.2.2.1, ed]
    by_cases hl : d < 9
    · rw [if_pos (nI_lt hl (by decide)), nI_1', imin_N (by omega) (by omega), show min 9 (d + 1) = d + 1 by omega]
      exact h.depth hp (fun _ => e.2.2.2.2.2.2.2 ha)
    · rw [if_neg (nI_nlt (by omega) (by omega)), nI_1', imin_N (by omega) (by omega), upd_id (by rw [ed]; congr 1; omega)]
      exact h
  have D1 : 0 < upd f (10 + p) (imin (nI 9) (f (10 + p) + nI 1)) (10 + p) := by
    rw [pk_us, ed, nI_1', imin_N (by omega) (by omega)]
    exact nI_lt (show 0 < min 9 (d + 1) by omega) (by omega)
  have S1 : upd f (10 + p) (imin (nI 9) (f (10 + p) + nI 1)) (15 + p) = nI s := by rw [pk_un (by omega)]; exact es
  have T1 : upd f (10 + p) (imin (nI 9) (f (10 + p) + nI 1)) (0 + p) = nI k := by rw [pk_un (by omega)]; exact ek
  generalize upd f (10 + p) (imin (nI 9) (f (10 + p) + nI 1)) = F1 at k1 D1 S1 T1 ⊢
  generalize (if g (15 + p) < nI 9 then upd g (15 + p) (g (15 + p) + nI 1) else g) = G1 at k1 ⊢
  have k2 : RRow (upd F1 (0 + p) (imax (nI 0) (F1 (0 + p) - nI 1))) (if 0 < G1 (0 + p) then upd G1 (0 + p) (G1 (0 + p) - nI 1) else G1) := by
    rw [(k1.1 p hp).1, T1]
    by_cases k0 : k = 0
    · rw [if_neg (by rw [k0]; decide +kernel), upd_id (by rw [T1, k0]; decide +kernel)]
      exact k1
    · rw [if_pos (show (0 : Int32) < nI k from nI_lt (show 0 < k by omega) (by omega)), pk_sub (by omega), imax_N (by omega) (by omega), show max 0 (k - 1) = k - 1 by omega]
      exact k1.tired hp
  have D2 : 0 < upd F1 (0 + p) (imax (nI 0) (F1 (0 + p) - nI 1)) (10 + p) := by rw [pk_un (by omega)]; exact D1
  have S2 : upd F1 (0 + p) (imax (nI 0) (F1 (0 + p) - nI 1)) (15 + p) = nI s := by rw [pk_un (by omega)]; exact S1
  generalize upd F1 (0 + p) (imax (nI 0) (F1 (0 + p) - nI 1)) = F2 at k2 D2 S2 ⊢
  generalize (if 0 < G1 (0 + p) then upd G1 (0 + p) (G1 (0 + p) - nI 1) else G1) = G2 at k2 ⊢
  have k3 : RRow (upd F2 (25 + p) (F2 (25 + p) + nI 1)) (upd G2 (30 + p) (G2 (30 + p) + nI 1)) := by
    rw [(k2.1 p hp).2.2.2.2.2.1]
    exact k2.slept hp
  have D3 : 0 < upd F2 (25 + p) (F2 (25 + p) + nI 1) (10 + p) := by rw [pk_un (by omega)]; exact D2
  have S3 : upd F2 (25 + p) (F2 (25 + p) + nI 1) (15 + p) = nI s := by rw [pk_un (by omega)]; exact S2
  generalize upd F2 (25 + p) (F2 (25 + p) + nI 1) = F3 at k3 D3 S3 ⊢
  generalize upd G2 (30 + p) (G2 (30 + p) + nI 1) = G3 at k3 ⊢
  have e3 := k3.1 p hp
  rw [e3.2.2.2.2.1, S3]
  rcases (show s = 0 ∨ s = 1 by omega) with rfl | rfl
  · rw [if_neg (show ¬ nI 0 = nI 1 by decide +kernel), if_pos (show nI 0 = 0 from rfl)]
    exact k3
  · rw [if_pos rfl, if_neg (show ¬ nI 1 = 0 by decide +kernel), e3.2.2.2.2.2.2.2 D3 S3]
    have k4 := k3.lain (p := p) (v := F3 (20 + p) + nI 1) hp
    rw [pk_us, pk_us]
    by_cases hv : F3 (20 + p) + nI 1 < ov
    · rw [if_pos hv, if_pos hv]
      exact k4
    · rw [if_neg hv, if_neg hv]
      exact (k4.side (v := nI 0) hp (fun _ q => absurd q (by decide +kernel))).lainG hp (fun q => absurd (show nI 0 = nI 1 by have := q.2; rw [pk_us] at this; exact this) (by decide +kernel))
theorem sl_RO {f : Nat → Int32} {p : Nat} {li ov he : Int32} (h : RO f) (hp : p < 5) : RO (slpR li ov f p he) := by
  obtain ⟨⟨k, hk, ek⟩, _, ⟨d, hd, ed⟩, ⟨s, hs, es⟩⟩ := h.2 p hp
  unfold slpR
  dsimp only
  have h1 : RO (upd f (10 + p) (imin (nI 9) (f (10 + p) + nI 1))) := h.depth hp (by rw [ed, nI_1', imin_N (by omega) (by omega)]; exact ⟨_, by omega, rfl⟩)
  have h2 : RO (upd (upd f (10 + p) (imin (nI 9) (f (10 + p) + nI 1))) (0 + p) (imax (nI 0) (upd f (10 + p) (imin (nI 9) (f (10 + p) + nI 1)) (0 + p) - nI 1))) := h1.tired hp (by
    rw [pk_un (by omega), ek]
    by_cases k0 : k = 0
    · exact ⟨0, by decide, by rw [k0]; decide +kernel⟩
    · rw [pk_sub (by omega), imax_N (by omega) (by omega)]
      exact ⟨_, by omega, rfl⟩)
  split
  · split
    · split
      · exact (h2.slept hp).lain hp
      · exact ((h2.slept hp).lain hp).side hp ⟨0, by decide, rfl⟩
    · exact h2.slept hp
  · exact wk_RO h hp
theorem ngB_eq {f g : Nat → Int32} {p q : Nat} (h : RRow f g) (hp : p < 5) (hq : q < 5) : ngB g p q = nudgeB f p q := by
  obtain ⟨p1, p2, p3, p4, p5, p6, p7, p8⟩ := h.1 p hp
  obtain ⟨q1, q2, q3, q4, q5, q6, q7, q8⟩ := h.1 q hq
  unfold ngB nudgeB asl
  rw [p4, q4, p2, q2, q5]
theorem ng_RR {f g : Nat → Int32} {p q : Nat} (h : RRow f g) (hp : p < 5) (hq : q < 5) : RRow (nudgeR f p q) (ngG g p q) := by
  unfold ngG nudgeR
  rw [ngB_eq h hp hq, (h.1 q hq).2.2.2.1]
  split
  · split
    · have k1 := h.lain (p := q) (v := nI 0) hq
      have k2 := k1.depth (v := f (10 + q) - nI 2) hq (fun _ _ => by rw [pk_us, pk_us])
      have k3 := k2.side (v := nI 1) hq (fun _ _ => by rw [pk_un (by omega), pk_us, pk_un (by omega), pk_us])
      have c : ∀ (f : Nat → Int32) (a b c : Nat) (x y z : Int32), a ≠ b → a ≠ c → b ≠ c → upd (upd (upd f c z) a x) b y = upd (upd (upd f a x) b y) c z := by
        intro f a b c x y z h1 h2 h3
        funext j
        unfold upd
        by_cases e1 : j = a
        · rw [e1, if_neg h1, if_pos rfl, if_neg h2, if_neg h1, if_pos rfl]
        · by_cases e2 : j = b
          · rw [e2, if_pos rfl, if_neg h3, if_pos rfl]
          · rw [if_neg e2, if_neg e1]
            by_cases e3 : j = c
            · rw [if_pos e3, if_pos e3]
            · rw [if_neg e3, if_neg e3, if_neg e2, if_neg e1]
      rw [c f (10 + q) (15 + q) (20 + q) _ _ _ (by omega) (by omega) (by omega), c g (15 + q) (20 + q) (25 + q) _ _ _ (by omega) (by omega) (by omega)] at k3
      exact k3
    · exact wk_RR h hq
  · exact h
theorem ng_RO {f : Nat → Int32} {p q : Nat} (h : RO f) (hq : q < 5) : RO (nudgeR f p q) := by
  obtain ⟨⟨k, hk, ek⟩, _, ⟨d, hd, ed⟩, ⟨s, hs, es⟩⟩ := h.2 q hq
  unfold nudgeR
  split
  · split
    · next h2 =>
      refine ((h.depth hq ?_).side hq ⟨1, by decide, rfl⟩).lain hq
      rw [ed] at h2 ⊢
      have := (nI_ltI (by decide) (by omega)).mp h2
      rw [pk_sub (by omega)]
      exact ⟨_, by omega, rfl⟩
    · exact wk_RO h hq
  · exact h
/-- the other steps -/
def pwG (g : Nat → Int32) (kd p : Nat) (k : Int32) : Nat → Int32 := if kd = 1 then upd g (20 + p) (nI 1 - g (20 + p)) else if kd = 2 then upd g (5 + p) (nI 1 - g (5 + p)) else if g (10 + p) = k then g else upd g (10 + p) k
theorem flip_is {v : Int32} (h : ∃ k, k ≤ 1 ∧ v = nI k) : ∃ k, k ≤ 1 ∧ nI 1 - v = nI k := by
  obtain ⟨k, hk, rfl⟩ := h
  exact ⟨1 - k, by omega, pk_sub hk⟩
theorem pw_RR {f g : Nat → Int32} {kd p : Nat} {k : Int32} (h : RRow f g) (hp : p < 5) (ha : asl f p = false) : RRow (pawR f kd p k) (pwG g kd p k) := by
  have e := h.1 p hp
  have ha : ¬ 0 < f (10 + p) := by unfold asl at ha; exact of_decide_eq_false ha
  unfold pawR pwG
  rw [e.2.1, e.2.2.1, e.2.2.2.2.1]
  split
  · exact h.side hp (fun q => absurd q ha)
  · split
    · exact h.room hp
    · split
      · exact h
      · exact h.plugs hp
theorem pw_RO {f : Nat → Int32} {kd p : Nat} {k : Int32} (h : RO f) (hp : p < 5) : RO (pawR f kd p k) := by
  obtain ⟨_, e2, _, e4⟩ := h.2 p hp
  unfold pawR
  split
  · exact h.side hp (flip_is e4)
  · split
    · exact h.room hp (flip_is e2)
    · split
      · exact h
      · exact h.plugs hp
theorem one_RO {E : NE} {he rd f : Nat → Int32} {p : Nat} (h : RO f) (hp : p < 5) : RO (oneP E he rd f p) := by
  unfold oneP
  split
  · exact sl_RO h hp
  · exact st_RO h hp
theorem mn_RO {E : NE} {he rd f : Nat → Int32} (h : RO f) : ∀ i, i ≤ 5 → RO (mnP E he rd f i)
  | 0, _ => h
  | i + 1, hi => one_RO (mn_RO h i (by omega)) (by omega)
theorem min_RO {E : NE} {w k : Int32} {rd f : Nat → Int32} (h : RO f) (hn : eN E ≤ 5) : RO (minP E w rd k f) := by
  obtain ⟨t, ht2, ht⟩ := h.1
  have e := minP_40 (E := E) (w := w) (k := k) (rd := rd) hn ht ht2
  unfold minP at e ⊢
  split
  · next hlt =>
    rw [if_pos hlt, pk_us] at e
    exact (mn_RO h _ hn).at40 (by rw [e]; exact ⟨_, by split <;> omega, rfl⟩)
  · exact h
theorem it_RO {E : NE} {w : Int32} {rd f : Nat → Int32} (h : RO f) (hn : eN E ≤ 5) : ∀ i, RO (itP E w rd f i)
  | 0 => h
  | i + 1 => min_RO (it_RO h hn i) hn
theorem call_RO {f : Nat → Int32} {p : Nat} (h : RO f) (hp : p < 5) : RO (callR f p) := by
  unfold callR
  split
  · exact wk_RO h hp
  · exact h
theorem pf_RO {E : NE} {f : Nat → Int32} {kd p q : Nat} (h : RO f) (hn : eN E ≤ 5) (hp : p < 5) (hq : kd = 0 → q < 5) : RO (pfR E f kd p q) := by
  unfold pfR
  split
  · next e => exact ng_RO h (hq e)
  · split
    · exact min_RO h hn
    · split
      · exact call_RO h hp
      · split
        · exact h
        · exact pw_RO h hp

