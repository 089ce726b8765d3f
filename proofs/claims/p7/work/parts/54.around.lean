theorem Zr.done {b h d : Nat → Int32} {t x : Nat} (hz : Zr b h d t) (hx : x < t) : d x = 0 := (hz x hx).2.2
theorem Zr.tb {b h d : Nat → Int32} {t : Nat} (hz : Zr b h d t) : ∀ n, n ≤ t → tB b n = 0 ∧ tB h n = 0
  | 0, _ => ⟨rfl, rfl⟩
  | n + 1, hn => by
    obtain ⟨e1, e2⟩ := Zr.tb hz n (by omega)
    obtain ⟨z1, z2, -⟩ := hz n (by omega)
    rw [tB, tB, e1, e2, z1, z2]
    exact ⟨rfl, rfl⟩
theorem LZ.j0 {wd rs : Int64 → Bool} {s : Nat → Int32} {v : Nat → Int64} {b h d P : Nat → Int32} {t : Nat} (hz : LZ s v b h d t) (ht : t ≤ 600) (hP : PT s v P t) : ∀ q, 0 ≤ q → 0 < exN wd rs s v P t q → ¬ d (q + exN wd rs s v P t q) = 0 → 0 < exN wd rs s v P t (q + exN wd rs s v P t q) → ¬ d q = 0 := by
  intro q _ h1 h2 h3
  exact absurd (hz.2.2.1.done (exN_cases ht hP h3).1) h2
theorem LZ.few {s : Nat → Int32} {v : Nat → Int64} {b h d : Nat → Int32} {t : Nat} (hz : LZ s v b h d t) : und s d t + tB b t ≤ 90 ∧ und s d t + tB h t ≤ 90 := by
  have e := hz.2.2.1.tb t (Nat.le_refl _)
  have c := und_cn (s := s) (d := d) t
  have := hz.2.2.2
  omega
