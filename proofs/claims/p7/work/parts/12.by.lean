/-! bytes of a long, for both sides' write (uN, uN_shr, uN_sk: from kit/laws/BITS.to-paste) -/
def uN (x : Int64) : Nat := x.toUInt64.toNat
theorem uN_lt (x : Int64) : uN x < 18446744073709551616 := x.toUInt64.toNat_lt
theorem uN_shr (x : Int64) (s : UInt64) : uN (x.toUInt64 >>> s).toInt64 = uN x / 2 ^ (s.toNat % 64) := by
  show (x.toUInt64 >>> s).toNat = _
  rw [UInt64.toNat_shiftRight, Nat.shiftRight_eq_div_pow]
  rfl
theorem uN_sk (x : Int64) {k : Nat} (hk : k < 64) : uN (x.toUInt64 >>> ((nI k).toInt64.toUInt64 &&& Int64.toUInt64 63)).toInt64 = uN x / 2 ^ k := by
  have h : ((nI k).toInt64.toUInt64 &&& Int64.toUInt64 63).toNat % 64 = k := by
    rw [nI_l (by omega), UInt64.toNat_and]
    have e : (lN k).toUInt64.toNat = k % 2 ^ 64 := rfl
    have e2 : (Int64.toUInt64 63).toNat = 2 ^ 6 - 1 := by decide
    rw [e, e2, Nat.and_two_pow_sub_one_eq_mod]
    omega
  rw [uN_shr, h]
def by_ (v : Int64) (i : Nat) : Nat := uN v / 2 ^ (8 * i) % 256
theorem by_lt (v : Int64) (i : Nat) : by_ v i < 256 := Nat.mod_lt _ (by decide)
theorem by_lo (y : Int64) : y.toInt32.toBitVec.toNat = uN y % 2 ^ 32 := by
  rw [Int64.toBitVec_toInt32, BitVec.signExtend_eq_setWidth_of_le _ (by decide), BitVec.toNat_setWidth]
  rfl
theorem by_c (v : Int64) {i : Nat} (hi : i < 8) : (v.toUInt64 >>> ((nI (8 * i)).toInt64.toUInt64 &&& Int64.toUInt64 63)).toInt64.toInt32 &&& 255 = nI (by_ v i) := by
  rw [pk_and _ 8 (by decide), by_lo, uN_sk v (by omega)]
  have h : uN v / 2 ^ (8 * i) % 2 ^ 32 % 2 ^ 8 = uN v / 2 ^ (8 * i) % 256 := by omega
  rw [h]
  rfl
theorem by_sr (v D : Int64) {k : Nat} (hD : (D.toBitVec.smod 64).toNat = k) : (v >>> D).toInt = v.toInt / 2 ^ k := by
  show (v.toBitVec.sshiftRight (D.toBitVec.smod 64).toNat).toInt = _
  rw [hD, BitVec.toInt_sshiftRight, Int.shiftRight_eq_div_pow]
  rfl
theorem by_ti (v : Int64) : v.toInt = if 2 * uN v < 18446744073709551616 then (uN v : Int) else (uN v : Int) - 18446744073709551616 := by
  have c := BitVec.toInt_eq_toNat_cond v.toBitVec
  exact c
theorem by_m (v : Int64) {i : Nat} (hi : i < 8) : ((v >>> ((nI (8 * i)).toInt64 &&& 63)) &&& 255).toInt32 = nI (by_ v i) := by
  have hu : uN ((v >>> ((nI (8 * i)).toInt64 &&& 63)) &&& 255) = uN (v >>> ((nI (8 * i)).toInt64 &&& 63)) % 256 := by
    show ((v >>> ((nI (8 * i)).toInt64 &&& 63)).toUInt64 &&& Int64.toUInt64 255).toNat = _
    rw [UInt64.toNat_and]
    exact Nat.and_two_pow_sub_one_eq_mod _ 8
  have h8 : i = 0 ∨ i = 1 ∨ i = 2 ∨ i = 3 ∨ i = 4 ∨ i = 5 ∨ i = 6 ∨ i = 7 := by omega
  have hz : uN (v >>> ((nI (8 * i)).toInt64 &&& 63)) % 256 = by_ v i := by
    have t1 := by_ti v
    have t2 := by_ti (v >>> ((nI (8 * i)).toInt64 &&& 63))
    have l1 := uN_lt v
    have l2 := uN_lt (v >>> ((nI (8 * i)).toInt64 &&& 63))
    unfold by_
    rcases h8 with rfl | rfl | rfl | rfl | rfl | rfl | rfl | rfl
    · have hs := by_sr v ((nI (8 * 0)).toInt64 &&& 63) (k := 0) (by decide)
      rw [hs, t1] at t2
      generalize uN (v >>> ((nI (8 * 0)).toInt64 &&& 63)) = z at *
      generalize uN v = n at *
      split at t2 <;> split at t2 <;> omega
    · have hs := by_sr v ((nI (8 * 1)).toInt64 &&& 63) (k := 8) (by decide)
      rw [hs, t1] at t2
      generalize uN (v >>> ((nI (8 * 1)).toInt64 &&& 63)) = z at *
      generalize uN v = n at *
      split at t2 <;> split at t2 <;> omega
    · have hs := by_sr v ((nI (8 * 2)).toInt64 &&& 63) (k := 16) (by decide)
      rw [hs, t1] at t2
      generalize uN (v >>> ((nI (8 * 2)).toInt64 &&& 63)) = z at *
      generalize uN v = n at *
      split at t2 <;> split at t2 <;> omega
    · have hs := by_sr v ((nI (8 * 3)).toInt64 &&& 63) (k := 24) (by decide)
      rw [hs, t1] at t2
      generalize uN (v >>> ((nI (8 * 3)).toInt64 &&& 63)) = z at *
      generalize uN v = n at *
      split at t2 <;> split at t2 <;> omega
    · have hs := by_sr v ((nI (8 * 4)).toInt64 &&& 63) (k := 32) (by decide)
      rw [hs, t1] at t2
      generalize uN (v >>> ((nI (8 * 4)).toInt64 &&& 63)) = z at *
      generalize uN v = n at *
      split at t2 <;> split at t2 <;> omega
    · have hs := by_sr v ((nI (8 * 5)).toInt64 &&& 63) (k := 40) (by decide)
      rw [hs, t1] at t2
      generalize uN (v >>> ((nI (8 * 5)).toInt64 &&& 63)) = z at *
      generalize uN v = n at *
      split at t2 <;> split at t2 <;> omega
    · have hs := by_sr v ((nI (8 * 6)).toInt64 &&& 63) (k := 48) (by decide)
      rw [hs, t1] at t2
      generalize uN (v >>> ((nI (8 * 6)).toInt64 &&& 63)) = z at *
      generalize uN v = n at *
      split at t2 <;> split at t2 <;> omega
    · have hs := by_sr v ((nI (8 * 7)).toInt64 &&& 63) (k := 56) (by decide)
      rw [hs, t1] at t2
      generalize uN (v >>> ((nI (8 * 7)).toInt64 &&& 63)) = z at *
      generalize uN v = n at *
      split at t2 <;> split at t2 <;> omega
  apply Int32.toBitVec_inj.mp
  apply BitVec.eq_of_toNat_eq
  rw [by_lo, hu, hz]
  have hb := by_lt v i
  have e : (nI (by_ v i)).toBitVec.toNat = by_ v i := pk_tn (by omega)
  rw [e]
  omega
def ok_ (k : Nat) : Bool := decide (k = 10) || (decide (32 ≤ k) && decide (k ≤ 126))
def gd_ (v : Int64) : Nat → Bool
  | 0 => true
  | n + 1 => gd_ v n && ok_ (by_ v n)
theorem gd_not {v : Int64} {i : Nat} (h : ok_ (by_ v i) = false) : ∀ n, i < n → gd_ v n = false
  | 0, h0 => absurd h0 (Nat.not_lt_zero _)
  | n + 1, h0 => by
    rcases Nat.lt_succ_iff_lt_or_eq.mp h0 with h1 | h1
    · rw [gd_, gd_not h n h1]; rfl
    · subst h1; rw [gd_, h, Bool.and_false]
theorem xr_iand {p : Program} {l : Launch} {e : Env} {R : Room} {s : State} {m : MethodId} {args : Array Value} {below : List Frame} {meth : Method} {c : Code} {H : Heap} {locs : List Loc} {cells slots : Nat} {Q : State → Prop} {cc : ByteArray} {pc : Nat} {ls : Array Slot} {rest : List Value} (hx : p.tables.exec = Jvm.exec) (hb : c.code = cc) {x y v : Int32} (hdg : decode cc pc = .ok (.iand, 1)) (hv : x &&& y = v) (k : W p l e R s m args below meth c H locs cells slots Q (F0 m (pc + 1) ls (.int v :: rest))) : W p l e R s m args below meth c H locs cells slots Q (F0 m pc ls (.int y :: .int x :: rest)) := by
  subst hv; exact lv_iand hx hb hdg k
theorem xr_0add (y : Int32) : 0 + y = y := Int32.zero_add y
theorem xr_land {p : Program} {l : Launch} {e : Env} {R : Room} {s : State} {m : MethodId} {args : Array Value} {below : List Frame} {meth : Method} {c : Code} {H : Heap} {locs : List Loc} {cells slots : Nat} {Q : State → Prop} {cc : ByteArray} {pc : Nat} {ls : Array Slot} {rest : List Value} (hx : p.tables.exec = Jvm.exec) (hb : c.code = cc) {x y v : Int64} (hdg : decode cc pc = .ok (.land, 1)) (hv : x &&& y = v) (k : W p l e R s m args below meth c H locs cells slots Q (F0 m (pc + 1) ls (.long v :: rest))) : W p l e R s m args below meth c H locs cells slots Q (F0 m pc ls (.long y :: .long x :: rest)) := by
  subst hv; exact lv_land hx hb hdg k
