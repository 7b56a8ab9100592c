abbrev RowS : Type := (Nat → Int32) × (Nat → Int32) × (Nat → Int32) × Int32 × Int32
abbrev CSt : Type := (Nat → Int32) × (Nat → Int32) × (Nat → Int32) × (Nat → Int32) × (Nat → Int32) × (Nat → Int32) × (Nat → Int32) × (Nat → Int32) × (Nat → Int32) × (Nat → Int32) × Int32 × Int32 × Int32 × Int32 × (Nat → RowS)
abbrev TY (cI cR : ClassId) : List (ClassId × FieldType) := [(cI, .int), (cR, .object "PacketStores$Row")]
abbrev RW (cI : ClassId) (q o a b : Nat) (u : RowS) : va_W := [(q, .inr (0, [.ref o, .ref a, .ref b, .int u.2.2.2.1, .int u.2.2.2.2])), (o, .inl (cI, 8, .inl u.1)), (a, .inl (cI, 8, .inl u.2.1)), (b, .inl (cI, 8, .inl u.2.2.1))]
abbrev RW2 (cI : ClassId) (q o a b q2 o2 a2 b2 : Nat) (u : RowS × RowS) : va_W := RW cI q o a b u.1 ++ RW cI q2 o2 a2 b2 u.2
def rcell (cI : ClassId) (qa : Nat → Nat) (rs : Nat → RowS) (k : Nat) : va_E := if k % 4 = 0 then .inr (0, [.ref (qa (k + 1)), .ref (qa (k + 2)), .ref (qa (k + 3)), .int (rs (k / 4)).2.2.2.1, .int (rs (k / 4)).2.2.2.2]) else if k % 4 = 1 then .inl (cI, 8, .inl (rs (k / 4)).1) else if k % 4 = 2 then .inl (cI, 8, .inl (rs (k / 4)).2.1) else .inl (cI, 8, .inl (rs (k / 4)).2.2.1)
def rowsW (cI : ClassId) (qa : Nat → Nat) (rs : Nat → RowS) : va_W := (List.range 192).map (fun k => (qa k, rcell cI qa rs k))
abbrev CX (cI cR : ClassId) (ca qa : Nat → Nat) (u : CSt) : va_W := [(ca 0, .inr (1, [.ref (ca 1), .ref (ca 2), .ref (ca 3), .ref (ca 4), .ref (ca 5), .ref (ca 6), .ref (ca 7), .ref (ca 8), .ref (ca 9), .ref (ca 10), .ref (ca 11), .ref (ca 12), .int u.2.2.2.2.2.2.2.2.2.2.1, .int u.2.2.2.2.2.2.2.2.2.2.2.1, .int u.2.2.2.2.2.2.2.2.2.2.2.2.1, .int u.2.2.2.2.2.2.2.2.2.2.2.2.2.1])), (ca 1, .inl (cR, 32, .inr (.inr (.inr (.inr (fun k => some (qa (4 * k)))))))), (ca 2, .inl (cI, 32, .inl u.1)), (ca 3, .inl (cI, 32, .inl u.2.1)), (ca 4, .inl (cI, 8, .inl u.2.2.1)), (ca 5, .inl (cI, 8, .inl u.2.2.2.1)), (ca 6, .inl (cI, 8, .inl u.2.2.2.2.1)), (ca 7, .inl (cR, 16, .inr (.inr (.inr (.inr (fun k => some (qa (4 * (32 + k))))))))), (ca 8, .inl (cI, 16, .inl u.2.2.2.2.2.1)), (ca 9, .inl (cI, 16, .inl u.2.2.2.2.2.2.1)), (ca 10, .inl (cI, 4, .inl u.2.2.2.2.2.2.2.1)), (ca 11, .inl (cI, 4, .inl u.2.2.2.2.2.2.2.2.1)), (ca 12, .inl (cI, 4, .inl u.2.2.2.2.2.2.2.2.2.1))]
abbrev CW (cI cR : ClassId) (ca qa : Nat → Nat) (u : CSt) : va_W := CX cI cR ca qa u ++ rowsW cI qa u.2.2.2.2.2.2.2.2.2.2.2.2.2.2
section WW
variable {cI cR : ClassId} {ca qa : Nat → Nat} {rs : Nat → RowS} {u : CSt} {j j1 j2 k : Nat} {r' r1 r2 : RowS}
theorem rc0 : rcell cI qa rs (4 * j) = .inr (0, [.ref (qa (4 * j + 1)), .ref (qa (4 * j + 2)), .ref (qa (4 * j + 3)), .int (rs j).2.2.2.1, .int (rs j).2.2.2.2]) := by
  unfold rcell
  rw [if_pos (by omega), show 4 * j / 4 = j by omega]
theorem rc1 : rcell cI qa rs (4 * j + 1) = .inl (cI, 8, .inl (rs j).1) := by
  unfold rcell
  rw [if_neg (by omega), if_pos (by omega), show (4 * j + 1) / 4 = j by omega]
theorem rc2 : rcell cI qa rs (4 * j + 2) = .inl (cI, 8, .inl (rs j).2.1) := by
  unfold rcell
  rw [if_neg (by omega), if_neg (by omega), if_pos (by omega), show (4 * j + 2) / 4 = j by omega]
theorem rc3 : rcell cI qa rs (4 * j + 3) = .inl (cI, 8, .inl (rs j).2.2.1) := by
  unfold rcell
  rw [if_neg (by omega), if_neg (by omega), if_neg (by omega), show (4 * j + 3) / 4 = j by omega]
theorem rc_ne (h : ¬ k / 4 = j) : rcell cI qa (va_up rs j r') k = rcell cI qa rs k := by
  unfold rcell
  rw [va_up_ne rs r' h]
theorem rows_get (h : k < 192) : (rowsW cI qa rs)[k]? = some (qa k, rcell cI qa rs k) := by
  unfold rowsW
  rw [List.getElem?_map, List.getElem?_range h]; rfl
theorem rows_lt {e : Nat × va_E} (h : (rowsW cI qa rs)[k]? = some e) : k < 192 := by
  have h1 := (List.getElem?_eq_some_iff.mp h).1
  unfold rowsW at h1
  simpa using h1
theorem cw_get : (CW cI cR ca qa u)[13 + k]? = (rowsW cI qa u.2.2.2.2.2.2.2.2.2.2.2.2.2.2)[k]? := by
  show (CX cI cR ca qa u ++ rowsW cI qa u.2.2.2.2.2.2.2.2.2.2.2.2.2.2)[13 + k]? = _
  rw [List.getElem?_append_right (show 13 ≤ 13 + k by omega)]
  rw [show 13 + k - (CX cI cR ca qa u).length = k from (show 13 + k - 13 = k by omega)]
theorem cw_lo {i : Nat} (h : i < 13) : (CW cI cR ca qa u)[i]? = (CX cI cR ca qa u)[i]? := List.getElem?_append_left (show i < 13 from h)
theorem cw_ad (u v : CSt) : (CW cI cR ca qa u).map (·.1) = (CW cI cR ca qa v).map (·.1) := by
  show (CX cI cR ca qa u ++ rowsW cI qa _).map _ = (CX cI cR ca qa v ++ rowsW cI qa _).map _
  rw [List.map_append, List.map_append]
  unfold rowsW
  rw [List.map_map, List.map_map]; rfl
theorem cw_sb (hj : j < 48) : Sb (CW cI cR ca qa u) (RW cI (qa (4 * j)) (qa (4 * j + 1)) (qa (4 * j + 2)) (qa (4 * j + 3)) (u.2.2.2.2.2.2.2.2.2.2.2.2.2.2 j)) (fun k => 13 + (4 * j + k)) := by
  refine ⟨fun k e h => ?_, fun i i' _ _ h => by
    have h9 : 13 + (4 * j + i) = 13 + (4 * j + i') := h
    omega⟩
  have hk : k < 4 := (List.getElem?_eq_some_iff.mp h).1
  show (CW cI cR ca qa u)[13 + (4 * j + k)]? = some e
  rw [cw_get, rows_get (by omega), ← h]
  rcases (by omega : k = 0 ∨ k = 1 ∨ k = 2 ∨ k = 3) with rfl | rfl | rfl | rfl
  · rw [Nat.add_zero, rc0]; rfl
  · rw [rc1]; rfl
  · rw [rc2]; rfl
  · rw [rc3]; rfl
theorem cw_jn (hj : j < 48) : Jn (CW cI cR ca qa u) (RW cI (qa (4 * j)) (qa (4 * j + 1)) (qa (4 * j + 2)) (qa (4 * j + 3)) (u.2.2.2.2.2.2.2.2.2.2.2.2.2.2 j)) (RW cI (qa (4 * j)) (qa (4 * j + 1)) (qa (4 * j + 2)) (qa (4 * j + 3)) r') (CW cI cR ca qa (u.1, u.2.1, u.2.2.1, u.2.2.2.1, u.2.2.2.2.1, u.2.2.2.2.2.1, u.2.2.2.2.2.2.1, u.2.2.2.2.2.2.2.1, u.2.2.2.2.2.2.2.2.1, u.2.2.2.2.2.2.2.2.2.1, u.2.2.2.2.2.2.2.2.2.2.1, u.2.2.2.2.2.2.2.2.2.2.2.1, u.2.2.2.2.2.2.2.2.2.2.2.2.1, u.2.2.2.2.2.2.2.2.2.2.2.2.2.1, va_up u.2.2.2.2.2.2.2.2.2.2.2.2.2.2 j r')) (fun k => 13 + (4 * j + k)) := by
  refine ⟨fun i e h => ?_, fun i e h => ?_⟩
  · by_cases hi : i < 13
    · rw [cw_lo hi] at h
      exact Or.inr ⟨by rw [cw_lo hi]; exact h, fun k _ => by show 13 + (4 * j + k) ≠ i; omega⟩
    · obtain ⟨k, rfl⟩ : ∃ k, i = 13 + k := ⟨i - 13, by omega⟩
      rw [cw_get] at h
      replace h : (rowsW cI qa (va_up u.2.2.2.2.2.2.2.2.2.2.2.2.2.2 j r'))[k]? = some e := h
      have hk := rows_lt h
      rw [rows_get hk] at h
      by_cases hkj : k / 4 = j
      · refine Or.inl ⟨k % 4, ?_⟩
        rw [← h]
        rcases (by omega : k = 4 * j ∨ k = 4 * j + 1 ∨ k = 4 * j + 2 ∨ k = 4 * j + 3) with rfl | rfl | rfl | rfl
        · rw [rc0, show 4 * j % 4 = 0 by omega, va_up_self]; rfl
        · rw [rc1, show (4 * j + 1) % 4 = 1 by omega, va_up_self]; rfl
        · rw [rc2, show (4 * j + 2) % 4 = 2 by omega, va_up_self]; rfl
        · rw [rc3, show (4 * j + 3) % 4 = 3 by omega, va_up_self]; rfl
      · refine Or.inr ⟨?_, fun k' hk' => ?_⟩
        · rw [cw_get, rows_get hk, ← h]
          rw [rc_ne hkj]
        · have : k' < 4 := hk'
          show 13 + (4 * j + k') ≠ 13 + k
          omega
  · by_cases hi : i < 13
    · rw [cw_lo hi] at h
      exact ⟨e, by rw [cw_lo hi]; exact h, rfl⟩
    · obtain ⟨k, rfl⟩ : ∃ k, i = 13 + k := ⟨i - 13, by omega⟩
      rw [cw_get] at h
      have hk := rows_lt h
      rw [rows_get hk] at h
      exact ⟨_, by rw [cw_get, rows_get hk], by rw [← Option.some.inj h]⟩
def g2 (j1 j2 k : Nat) : Nat := if k < 4 then 13 + (4 * j1 + k) else 13 + (4 * j2 + (k - 4))
theorem cw_sb2 (h1 : j1 < 48) (h2 : j2 < 48) (hn : ¬ j1 = j2) : Sb (CW cI cR ca qa u) (RW2 cI (qa (4 * j1)) (qa (4 * j1 + 1)) (qa (4 * j1 + 2)) (qa (4 * j1 + 3)) (qa (4 * j2)) (qa (4 * j2 + 1)) (qa (4 * j2 + 2)) (qa (4 * j2 + 3)) (u.2.2.2.2.2.2.2.2.2.2.2.2.2.2 j1, u.2.2.2.2.2.2.2.2.2.2.2.2.2.2 j2)) (g2 j1 j2) := by
  refine ⟨fun k e h => ?_, fun i i' hi hi' h => ?_⟩
  · have hk : k < 8 := (List.getElem?_eq_some_iff.mp h).1
    unfold g2
    by_cases h4 : k < 4
    · rw [if_pos h4]
      refine (cw_sb h1).1 k e ?_
      have h5 : (RW cI (qa (4 * j1)) (qa (4 * j1 + 1)) (qa (4 * j1 + 2)) (qa (4 * j1 + 3)) (u.2.2.2.2.2.2.2.2.2.2.2.2.2.2 j1) ++ RW cI (qa (4 * j2)) (qa (4 * j2 + 1)) (qa (4 * j2 + 2)) (qa (4 * j2 + 3)) (u.2.2.2.2.2.2.2.2.2.2.2.2.2.2 j2))[k]? = some e := h
      rw [List.getElem?_append_left (show k < 4 from h4)] at h5
      exact h5
    · rw [if_neg h4]
      refine (cw_sb h2).1 (k - 4) e ?_
      have h5 : (RW cI (qa (4 * j1)) (qa (4 * j1 + 1)) (qa (4 * j1 + 2)) (qa (4 * j1 + 3)) (u.2.2.2.2.2.2.2.2.2.2.2.2.2.2 j1) ++ RW cI (qa (4 * j2)) (qa (4 * j2 + 1)) (qa (4 * j2 + 2)) (qa (4 * j2 + 3)) (u.2.2.2.2.2.2.2.2.2.2.2.2.2.2 j2))[k]? = some e := h
      rw [List.getElem?_append_right (show 4 ≤ k by omega)] at h5
      exact h5
  · have hi8 : i < 8 := hi
    have hi8' : i' < 8 := hi'
    unfold g2 at h
    split at h <;> split at h <;> omega
theorem cw_jn2 (h1 : j1 < 48) (h2 : j2 < 48) (hn : ¬ j1 = j2) : Jn (CW cI cR ca qa u) (RW2 cI (qa (4 * j1)) (qa (4 * j1 + 1)) (qa (4 * j1 + 2)) (qa (4 * j1 + 3)) (qa (4 * j2)) (qa (4 * j2 + 1)) (qa (4 * j2 + 2)) (qa (4 * j2 + 3)) (u.2.2.2.2.2.2.2.2.2.2.2.2.2.2 j1, u.2.2.2.2.2.2.2.2.2.2.2.2.2.2 j2)) (RW2 cI (qa (4 * j1)) (qa (4 * j1 + 1)) (qa (4 * j1 + 2)) (qa (4 * j1 + 3)) (qa (4 * j2)) (qa (4 * j2 + 1)) (qa (4 * j2 + 2)) (qa (4 * j2 + 3)) (r1, r2)) (CW cI cR ca qa (u.1, u.2.1, u.2.2.1, u.2.2.2.1, u.2.2.2.2.1, u.2.2.2.2.2.1, u.2.2.2.2.2.2.1, u.2.2.2.2.2.2.2.1, u.2.2.2.2.2.2.2.2.1, u.2.2.2.2.2.2.2.2.2.1, u.2.2.2.2.2.2.2.2.2.2.1, u.2.2.2.2.2.2.2.2.2.2.2.1, u.2.2.2.2.2.2.2.2.2.2.2.2.1, u.2.2.2.2.2.2.2.2.2.2.2.2.2.1, va_up (va_up u.2.2.2.2.2.2.2.2.2.2.2.2.2.2 j1 r1) j2 r2)) (g2 j1 j2) := by
  refine ⟨fun i e h => ?_, fun i e h => ?_⟩
  · by_cases hi : i < 13
    · rw [cw_lo hi] at h
      exact Or.inr ⟨by rw [cw_lo hi]; exact h, fun k _ => by unfold g2; split <;> omega⟩
    · obtain ⟨k, rfl⟩ : ∃ k, i = 13 + k := ⟨i - 13, by omega⟩
      rw [cw_get] at h
      replace h : (rowsW cI qa (va_up (va_up u.2.2.2.2.2.2.2.2.2.2.2.2.2.2 j1 r1) j2 r2))[k]? = some e := h
      have hk := rows_lt h
      rw [rows_get hk] at h
      by_cases hkj : k / 4 = j2
      · refine Or.inl ⟨4 + k % 4, ?_⟩
        rw [← h]
        rcases (by omega : k = 4 * j2 ∨ k = 4 * j2 + 1 ∨ k = 4 * j2 + 2 ∨ k = 4 * j2 + 3) with rfl | rfl | rfl | rfl
        · rw [rc0, show 4 * j2 % 4 = 0 by omega, va_up_self]; rfl
        · rw [rc1, show (4 * j2 + 1) % 4 = 1 by omega, va_up_self]; rfl
        · rw [rc2, show (4 * j2 + 2) % 4 = 2 by omega, va_up_self]; rfl
        · rw [rc3, show (4 * j2 + 3) % 4 = 3 by omega, va_up_self]; rfl
      · have h' : some (qa k, rcell cI qa (va_up u.2.2.2.2.2.2.2.2.2.2.2.2.2.2 j1 r1) k) = some e := by
          rw [← h, rc_ne hkj]
        by_cases hkj1 : k / 4 = j1
        · refine Or.inl ⟨k % 4, ?_⟩
          rw [← h']
          rcases (by omega : k = 4 * j1 ∨ k = 4 * j1 + 1 ∨ k = 4 * j1 + 2 ∨ k = 4 * j1 + 3) with rfl | rfl | rfl | rfl
          · rw [rc0, show 4 * j1 % 4 = 0 by omega, va_up_self]; rfl
          · rw [rc1, show (4 * j1 + 1) % 4 = 1 by omega, va_up_self]; rfl
          · rw [rc2, show (4 * j1 + 2) % 4 = 2 by omega, va_up_self]; rfl
          · rw [rc3, show (4 * j1 + 3) % 4 = 3 by omega, va_up_self]; rfl
        · refine Or.inr ⟨?_, fun k' hk' => ?_⟩
          · rw [cw_get, rows_get hk, ← h', rc_ne hkj1]
          · have : k' < 8 := hk'
            unfold g2
            split <;> omega
  · by_cases hi : i < 13
    · rw [cw_lo hi] at h
      exact ⟨e, by rw [cw_lo hi]; exact h, rfl⟩
    · obtain ⟨k, rfl⟩ : ∃ k, i = 13 + k := ⟨i - 13, by omega⟩
      rw [cw_get] at h
      have hk := rows_lt h
      rw [rows_get hk] at h
      exact ⟨_, by rw [cw_get, rows_get hk], by rw [← Option.some.inj h]⟩
end WW
