/-! The loop of the law, and its start. -/
theorem and31 (x : Int32) : ∃ a : Int, (0 ≤ a ∧ a ≤ 31) ∧ (x &&& ii 31) = ii a := by
  refine ⟨(x &&& ii 31).toInt, ?_, (ii_self _).symm⟩
  have h2 : (x &&& ii 31).toBitVec.toNat ≤ 31 := by
    show (x.toBitVec &&& (ii 31).toBitVec).toNat ≤ 31
    rw [BitVec.toNat_and]
    exact Nat.le_trans Nat.and_le_right (by decide +kernel)
  have h1 : (x &&& ii 31).toInt = (x &&& ii 31).toBitVec.toInt := rfl
  rw [h1, BitVec.toInt_eq_toNat_of_lt (by omega)]
  omega
theorem Inv_get {L n : Nat} {xs : Int → Int} {H : pd_H} (I : Inv L xs n H) : pd_get H 0 = sr L xs ∧ H.1.1 ≤ 200 + n ∧ H.1.2.1 ≤ 10000 + 6 * n := by
  obtain ⟨tl, T, sv, dn, vn, rn, kd, c, nx, F, X, S, Tr, M, W, h, rfl, rel, hn1, hn2⟩ := I
  refine ⟨wd_at rfl, ?_, ?_⟩
  · rw [wd_1, wd_1]; exact hn1
  · rw [wd_1, wd_1]; exact hn2
theorem law_case {L i n : Nat} {xs : Int → Int} {H : pd_H} {a : Int} (ha : 0 ≤ a ∧ a ≤ 31) (hL5 : (i : Int) + 5 ≤ L) (hL : L ≤ 2560) (hx : ∀ q : Int, -2147483648 ≤ xs q ∧ xs q ≤ 2147483647) (I : Inv L xs n H) : ∃ H2, Inv L xs (n + 1) H2 ∧ ∀ (r : pd_Out × pd_H) (w5 w6 w7 : Value), (∀ w5 w6 w7 : Value, Rn 201 1951 [.ref 0, .ref 1, .ref 102, .ref 116, .int (ii (i : Int)), w5, w6, w7] [] H2 r) → Rn 201 39 [.ref 0, .ref 1, .ref 102, .ref 116, .int (ii (i : Int)), w5, w6, w7] [.int (ii a)] H r := by
  have h32 : a = 0 ∨ a = 1 ∨ a = 2 ∨ a = 3 ∨ a = 4 ∨ a = 5 ∨ a = 6 ∨ a = 7 ∨ a = 8 ∨ a = 9 ∨ a = 10 ∨ a = 11 ∨ a = 12 ∨ a = 13 ∨ a = 14 ∨ a = 15 ∨ a = 16 ∨ a = 17 ∨ a = 18 ∨ a = 19 ∨ a = 20 ∨ a = 21 ∨ a = 22 ∨ a = 23 ∨ a = 24 ∨ a = 25 ∨ a = 26 ∨ a = 27 ∨ a = 28 ∨ a = 29 ∨ a = 30 ∨ a = 31 := by omega
  rcases h32 with e | e | e | e | e | e | e | e | e | e | e | e | e | e | e | e | e | e | e | e | e | e | e | e | e | e | e | e | e | e | e | e <;> subst e
  · have q : ∃ H2, Inv L xs (n + 1) H2 ∧ ∀ (r : pd_Out × pd_H) (w5 w6 w7 : Value), (∀ w5 w6 w7 : Value, Rn 201 1951 [.ref 0, .ref 1, .ref 102, .ref 116, .int (ii (i : Int)), w5, w6, w7] [] H2 r) → Rn 201 180 [.ref 0, .ref 1, .ref 102, .ref 116, .int (ii (i : Int)), w5, w6, w7] [] H r := by
      exact k0 hL5 hL hx I
    obtain ⟨H2, I2, h⟩ := q
    exact ⟨H2, I2, fun r w5 w6 w7 hk => E_tsw pf_201_39 (by omega) rfl (h r w5 w6 w7 hk)⟩
  · have q : ∃ H2, Inv L xs (n + 1) H2 ∧ ∀ (r : pd_Out × pd_H) (w5 w6 w7 : Value), (∀ w5 w6 w7 : Value, Rn 201 1951 [.ref 0, .ref 1, .ref 102, .ref 116, .int (ii (i : Int)), w5, w6, w7] [] H2 r) → Rn 201 236 [.ref 0, .ref 1, .ref 102, .ref 116, .int (ii (i : Int)), w5, w6, w7] [] H r := by
      exact k1 hL5 hL hx I
    obtain ⟨H2, I2, h⟩ := q
    exact ⟨H2, I2, fun r w5 w6 w7 hk => E_tsw pf_201_39 (by omega) rfl (h r w5 w6 w7 hk)⟩
  · have q : ∃ H2, Inv L xs (n + 1) H2 ∧ ∀ (r : pd_Out × pd_H) (w5 w6 w7 : Value), (∀ w5 w6 w7 : Value, Rn 201 1951 [.ref 0, .ref 1, .ref 102, .ref 116, .int (ii (i : Int)), w5, w6, w7] [] H2 r) → Rn 201 249 [.ref 0, .ref 1, .ref 102, .ref 116, .int (ii (i : Int)), w5, w6, w7] [] H r := by
      exact k2 hL5 hL hx I
    obtain ⟨H2, I2, h⟩ := q
    exact ⟨H2, I2, fun r w5 w6 w7 hk => E_tsw pf_201_39 (by omega) rfl (h r w5 w6 w7 hk)⟩
  · have q : ∃ H2, Inv L xs (n + 1) H2 ∧ ∀ (r : pd_Out × pd_H) (w5 w6 w7 : Value), (∀ w5 w6 w7 : Value, Rn 201 1951 [.ref 0, .ref 1, .ref 102, .ref 116, .int (ii (i : Int)), w5, w6, w7] [] H2 r) → Rn 201 262 [.ref 0, .ref 1, .ref 102, .ref 116, .int (ii (i : Int)), w5, w6, w7] [] H r := by
      exact k3 hL5 hL hx I
    obtain ⟨H2, I2, h⟩ := q
    exact ⟨H2, I2, fun r w5 w6 w7 hk => E_tsw pf_201_39 (by omega) rfl (h r w5 w6 w7 hk)⟩
  · have q : ∃ H2, Inv L xs (n + 1) H2 ∧ ∀ (r : pd_Out × pd_H) (w5 w6 w7 : Value), (∀ w5 w6 w7 : Value, Rn 201 1951 [.ref 0, .ref 1, .ref 102, .ref 116, .int (ii (i : Int)), w5, w6, w7] [] H2 r) → Rn 201 306 [.ref 0, .ref 1, .ref 102, .ref 116, .int (ii (i : Int)), w5, w6, w7] [] H r := by
      exact k4 hL5 hL hx I
    obtain ⟨H2, I2, h⟩ := q
    exact ⟨H2, I2, fun r w5 w6 w7 hk => E_tsw pf_201_39 (by omega) rfl (h r w5 w6 w7 hk)⟩
  · have q : ∃ H2, Inv L xs (n + 1) H2 ∧ ∀ (r : pd_Out × pd_H) (w5 w6 w7 : Value), (∀ w5 w6 w7 : Value, Rn 201 1951 [.ref 0, .ref 1, .ref 102, .ref 116, .int (ii (i : Int)), w5, w6, w7] [] H2 r) → Rn 201 362 [.ref 0, .ref 1, .ref 102, .ref 116, .int (ii (i : Int)), w5, w6, w7] [] H r := by
      exact k5 hL5 hL hx I
    obtain ⟨H2, I2, h⟩ := q
    exact ⟨H2, I2, fun r w5 w6 w7 hk => E_tsw pf_201_39 (by omega) rfl (h r w5 w6 w7 hk)⟩
  · have q : ∃ H2, Inv L xs (n + 1) H2 ∧ ∀ (r : pd_Out × pd_H) (w5 w6 w7 : Value), (∀ w5 w6 w7 : Value, Rn 201 1951 [.ref 0, .ref 1, .ref 102, .ref 116, .int (ii (i : Int)), w5, w6, w7] [] H2 r) → Rn 201 430 [.ref 0, .ref 1, .ref 102, .ref 116, .int (ii (i : Int)), w5, w6, w7] [] H r := by
      exact k6 hL5 hL hx I
    obtain ⟨H2, I2, h⟩ := q
    exact ⟨H2, I2, fun r w5 w6 w7 hk => E_tsw pf_201_39 (by omega) rfl (h r w5 w6 w7 hk)⟩
  · have q : ∃ H2, Inv L xs (n + 1) H2 ∧ ∀ (r : pd_Out × pd_H) (w5 w6 w7 : Value), (∀ w5 w6 w7 : Value, Rn 201 1951 [.ref 0, .ref 1, .ref 102, .ref 116, .int (ii (i : Int)), w5, w6, w7] [] H2 r) → Rn 201 498 [.ref 0, .ref 1, .ref 102, .ref 116, .int (ii (i : Int)), w5, w6, w7] [] H r := by
      exact k7 hL5 hL hx I
    obtain ⟨H2, I2, h⟩ := q
    exact ⟨H2, I2, fun r w5 w6 w7 hk => E_tsw pf_201_39 (by omega) rfl (h r w5 w6 w7 hk)⟩
  · have q : ∃ H2, Inv L xs (n + 1) H2 ∧ ∀ (r : pd_Out × pd_H) (w5 w6 w7 : Value), (∀ w5 w6 w7 : Value, Rn 201 1951 [.ref 0, .ref 1, .ref 102, .ref 116, .int (ii (i : Int)), w5, w6, w7] [] H2 r) → Rn 201 566 [.ref 0, .ref 1, .ref 102, .ref 116, .int (ii (i : Int)), w5, w6, w7] [] H r := by
      exact k8 hL5 hL hx I
    obtain ⟨H2, I2, h⟩ := q
    exact ⟨H2, I2, fun r w5 w6 w7 hk => E_tsw pf_201_39 (by omega) rfl (h r w5 w6 w7 hk)⟩
  · have q : ∃ H2, Inv L xs (n + 1) H2 ∧ ∀ (r : pd_Out × pd_H) (w5 w6 w7 : Value), (∀ w5 w6 w7 : Value, Rn 201 1951 [.ref 0, .ref 1, .ref 102, .ref 116, .int (ii (i : Int)), w5, w6, w7] [] H2 r) → Rn 201 627 [.ref 0, .ref 1, .ref 102, .ref 116, .int (ii (i : Int)), w5, w6, w7] [] H r := by
      exact k9 hL5 hL hx I
    obtain ⟨H2, I2, h⟩ := q
    exact ⟨H2, I2, fun r w5 w6 w7 hk => E_tsw pf_201_39 (by omega) rfl (h r w5 w6 w7 hk)⟩
  · have q : ∃ H2, Inv L xs (n + 1) H2 ∧ ∀ (r : pd_Out × pd_H) (w5 w6 w7 : Value), (∀ w5 w6 w7 : Value, Rn 201 1951 [.ref 0, .ref 1, .ref 102, .ref 116, .int (ii (i : Int)), w5, w6, w7] [] H2 r) → Rn 201 683 [.ref 0, .ref 1, .ref 102, .ref 116, .int (ii (i : Int)), w5, w6, w7] [] H r := by
      exact k10 hL5 hL hx I
    obtain ⟨H2, I2, h⟩ := q
    exact ⟨H2, I2, fun r w5 w6 w7 hk => E_tsw pf_201_39 (by omega) rfl (h r w5 w6 w7 hk)⟩
  · have q : ∃ H2, Inv L xs (n + 1) H2 ∧ ∀ (r : pd_Out × pd_H) (w5 w6 w7 : Value), (∀ w5 w6 w7 : Value, Rn 201 1951 [.ref 0, .ref 1, .ref 102, .ref 116, .int (ii (i : Int)), w5, w6, w7] [] H2 r) → Rn 201 751 [.ref 0, .ref 1, .ref 102, .ref 116, .int (ii (i : Int)), w5, w6, w7] [] H r := by
      exact k11 hL5 hL hx I
    obtain ⟨H2, I2, h⟩ := q
    exact ⟨H2, I2, fun r w5 w6 w7 hk => E_tsw pf_201_39 (by omega) rfl (h r w5 w6 w7 hk)⟩
  · have q : ∃ H2, Inv L xs (n + 1) H2 ∧ ∀ (r : pd_Out × pd_H) (w5 w6 w7 : Value), (∀ w5 w6 w7 : Value, Rn 201 1951 [.ref 0, .ref 1, .ref 102, .ref 116, .int (ii (i : Int)), w5, w6, w7] [] H2 r) → Rn 201 831 [.ref 0, .ref 1, .ref 102, .ref 116, .int (ii (i : Int)), w5, w6, w7] [] H r := by
      exact k12 hL5 hL hx I
    obtain ⟨H2, I2, h⟩ := q
    exact ⟨H2, I2, fun r w5 w6 w7 hk => E_tsw pf_201_39 (by omega) rfl (h r w5 w6 w7 hk)⟩
  · have q : ∃ H2, Inv L xs (n + 1) H2 ∧ ∀ (r : pd_Out × pd_H) (w5 w6 w7 : Value), (∀ w5 w6 w7 : Value, Rn 201 1951 [.ref 0, .ref 1, .ref 102, .ref 116, .int (ii (i : Int)), w5, w6, w7] [] H2 r) → Rn 201 887 [.ref 0, .ref 1, .ref 102, .ref 116, .int (ii (i : Int)), w5, w6, w7] [] H r := by
      exact k13 hL5 hL hx I
    obtain ⟨H2, I2, h⟩ := q
    exact ⟨H2, I2, fun r w5 w6 w7 hk => E_tsw pf_201_39 (by omega) rfl (h r w5 w6 w7 hk)⟩
  · have q : ∃ H2, Inv L xs (n + 1) H2 ∧ ∀ (r : pd_Out × pd_H) (w5 w6 w7 : Value), (∀ w5 w6 w7 : Value, Rn 201 1951 [.ref 0, .ref 1, .ref 102, .ref 116, .int (ii (i : Int)), w5, w6, w7] [] H2 r) → Rn 201 967 [.ref 0, .ref 1, .ref 102, .ref 116, .int (ii (i : Int)), w5, w6, w7] [] H r := by
      exact k14 hL5 hL hx I
    obtain ⟨H2, I2, h⟩ := q
    exact ⟨H2, I2, fun r w5 w6 w7 hk => E_tsw pf_201_39 (by omega) rfl (h r w5 w6 w7 hk)⟩
  · have q : ∃ H2, Inv L xs (n + 1) H2 ∧ ∀ (r : pd_Out × pd_H) (w5 w6 w7 : Value), (∀ w5 w6 w7 : Value, Rn 201 1951 [.ref 0, .ref 1, .ref 102, .ref 116, .int (ii (i : Int)), w5, w6, w7] [] H2 r) → Rn 201 1011 [.ref 0, .ref 1, .ref 102, .ref 116, .int (ii (i : Int)), w5, w6, w7] [] H r := by
      exact k15 hL5 hL hx I
    obtain ⟨H2, I2, h⟩ := q
    exact ⟨H2, I2, fun r w5 w6 w7 hk => E_tsw pf_201_39 (by omega) rfl (h r w5 w6 w7 hk)⟩
  · have q : ∃ H2, Inv L xs (n + 1) H2 ∧ ∀ (r : pd_Out × pd_H) (w5 w6 w7 : Value), (∀ w5 w6 w7 : Value, Rn 201 1951 [.ref 0, .ref 1, .ref 102, .ref 116, .int (ii (i : Int)), w5, w6, w7] [] H2 r) → Rn 201 1067 [.ref 0, .ref 1, .ref 102, .ref 116, .int (ii (i : Int)), w5, w6, w7] [] H r := by
      exact k16 hL5 hL hx I
    obtain ⟨H2, I2, h⟩ := q
    exact ⟨H2, I2, fun r w5 w6 w7 hk => E_tsw pf_201_39 (by omega) rfl (h r w5 w6 w7 hk)⟩
  · have q : ∃ H2, Inv L xs (n + 1) H2 ∧ ∀ (r : pd_Out × pd_H) (w5 w6 w7 : Value), (∀ w5 w6 w7 : Value, Rn 201 1951 [.ref 0, .ref 1, .ref 102, .ref 116, .int (ii (i : Int)), w5, w6, w7] [] H2 r) → Rn 201 1123 [.ref 0, .ref 1, .ref 102, .ref 116, .int (ii (i : Int)), w5, w6, w7] [] H r := by
      by_cases hq : xs ((i : Int) + 2) = 0
      · exact k17t hL5 hL hx hq I
      · exact k17f hL5 hL hx hq I
    obtain ⟨H2, I2, h⟩ := q
    exact ⟨H2, I2, fun r w5 w6 w7 hk => E_tsw pf_201_39 (by omega) rfl (h r w5 w6 w7 hk)⟩
  · have q : ∃ H2, Inv L xs (n + 1) H2 ∧ ∀ (r : pd_Out × pd_H) (w5 w6 w7 : Value), (∀ w5 w6 w7 : Value, Rn 201 1951 [.ref 0, .ref 1, .ref 102, .ref 116, .int (ii (i : Int)), w5, w6, w7] [] H2 r) → Rn 201 1206 [.ref 0, .ref 1, .ref 102, .ref 116, .int (ii (i : Int)), w5, w6, w7] [] H r := by
      exact k18 hL5 hL hx I
    obtain ⟨H2, I2, h⟩ := q
    exact ⟨H2, I2, fun r w5 w6 w7 hk => E_tsw pf_201_39 (by omega) rfl (h r w5 w6 w7 hk)⟩
  · have q : ∃ H2, Inv L xs (n + 1) H2 ∧ ∀ (r : pd_Out × pd_H) (w5 w6 w7 : Value), (∀ w5 w6 w7 : Value, Rn 201 1951 [.ref 0, .ref 1, .ref 102, .ref 116, .int (ii (i : Int)), w5, w6, w7] [] H2 r) → Rn 201 1220 [.ref 0, .ref 1, .ref 102, .ref 116, .int (ii (i : Int)), w5, w6, w7] [] H r := by
      exact k19 hL5 hL hx I
    obtain ⟨H2, I2, h⟩ := q
    exact ⟨H2, I2, fun r w5 w6 w7 hk => E_tsw pf_201_39 (by omega) rfl (h r w5 w6 w7 hk)⟩
  · have q : ∃ H2, Inv L xs (n + 1) H2 ∧ ∀ (r : pd_Out × pd_H) (w5 w6 w7 : Value), (∀ w5 w6 w7 : Value, Rn 201 1951 [.ref 0, .ref 1, .ref 102, .ref 116, .int (ii (i : Int)), w5, w6, w7] [] H2 r) → Rn 201 1234 [.ref 0, .ref 1, .ref 102, .ref 116, .int (ii (i : Int)), w5, w6, w7] [] H r := by
      exact k20 hL5 hL hx I
    obtain ⟨H2, I2, h⟩ := q
    exact ⟨H2, I2, fun r w5 w6 w7 hk => E_tsw pf_201_39 (by omega) rfl (h r w5 w6 w7 hk)⟩
  · have q : ∃ H2, Inv L xs (n + 1) H2 ∧ ∀ (r : pd_Out × pd_H) (w5 w6 w7 : Value), (∀ w5 w6 w7 : Value, Rn 201 1951 [.ref 0, .ref 1, .ref 102, .ref 116, .int (ii (i : Int)), w5, w6, w7] [] H2 r) → Rn 201 1247 [.ref 0, .ref 1, .ref 102, .ref 116, .int (ii (i : Int)), w5, w6, w7] [] H r := by
      exact k21 hL5 hL hx I
    obtain ⟨H2, I2, h⟩ := q
    exact ⟨H2, I2, fun r w5 w6 w7 hk => E_tsw pf_201_39 (by omega) rfl (h r w5 w6 w7 hk)⟩
  · have q : ∃ H2, Inv L xs (n + 1) H2 ∧ ∀ (r : pd_Out × pd_H) (w5 w6 w7 : Value), (∀ w5 w6 w7 : Value, Rn 201 1951 [.ref 0, .ref 1, .ref 102, .ref 116, .int (ii (i : Int)), w5, w6, w7] [] H2 r) → Rn 201 1260 [.ref 0, .ref 1, .ref 102, .ref 116, .int (ii (i : Int)), w5, w6, w7] [] H r := by
      exact k22 hL5 hL hx I
    obtain ⟨H2, I2, h⟩ := q
    exact ⟨H2, I2, fun r w5 w6 w7 hk => E_tsw pf_201_39 (by omega) rfl (h r w5 w6 w7 hk)⟩
  · have q : ∃ H2, Inv L xs (n + 1) H2 ∧ ∀ (r : pd_Out × pd_H) (w5 w6 w7 : Value), (∀ w5 w6 w7 : Value, Rn 201 1951 [.ref 0, .ref 1, .ref 102, .ref 116, .int (ii (i : Int)), w5, w6, w7] [] H2 r) → Rn 201 1273 [.ref 0, .ref 1, .ref 102, .ref 116, .int (ii (i : Int)), w5, w6, w7] [] H r := by
      exact k23 hL5 hL hx I
    obtain ⟨H2, I2, h⟩ := q
    exact ⟨H2, I2, fun r w5 w6 w7 hk => E_tsw pf_201_39 (by omega) rfl (h r w5 w6 w7 hk)⟩
  · have q : ∃ H2, Inv L xs (n + 1) H2 ∧ ∀ (r : pd_Out × pd_H) (w5 w6 w7 : Value), (∀ w5 w6 w7 : Value, Rn 201 1951 [.ref 0, .ref 1, .ref 102, .ref 116, .int (ii (i : Int)), w5, w6, w7] [] H2 r) → Rn 201 1365 [.ref 0, .ref 1, .ref 102, .ref 116, .int (ii (i : Int)), w5, w6, w7] [] H r := by
      exact k24 hL5 hL hx I
    obtain ⟨H2, I2, h⟩ := q
    exact ⟨H2, I2, fun r w5 w6 w7 hk => E_tsw pf_201_39 (by omega) rfl (h r w5 w6 w7 hk)⟩
  · have q : ∃ H2, Inv L xs (n + 1) H2 ∧ ∀ (r : pd_Out × pd_H) (w5 w6 w7 : Value), (∀ w5 w6 w7 : Value, Rn 201 1951 [.ref 0, .ref 1, .ref 102, .ref 116, .int (ii (i : Int)), w5, w6, w7] [] H2 r) → Rn 201 1378 [.ref 0, .ref 1, .ref 102, .ref 116, .int (ii (i : Int)), w5, w6, w7] [] H r := by
      by_cases hq : xs ((i : Int) + 3) = 0
      · exact k25t hL5 hL hx hq I
      · exact k25f hL5 hL hx hq I
    obtain ⟨H2, I2, h⟩ := q
    exact ⟨H2, I2, fun r w5 w6 w7 hk => E_tsw pf_201_39 (by omega) rfl (h r w5 w6 w7 hk)⟩
  · have q : ∃ H2, Inv L xs (n + 1) H2 ∧ ∀ (r : pd_Out × pd_H) (w5 w6 w7 : Value), (∀ w5 w6 w7 : Value, Rn 201 1951 [.ref 0, .ref 1, .ref 102, .ref 116, .int (ii (i : Int)), w5, w6, w7] [] H2 r) → Rn 201 1473 [.ref 0, .ref 1, .ref 102, .ref 116, .int (ii (i : Int)), w5, w6, w7] [] H r := by
      exact k26 hL5 hL hx I
    obtain ⟨H2, I2, h⟩ := q
    exact ⟨H2, I2, fun r w5 w6 w7 hk => E_tsw pf_201_39 (by omega) rfl (h r w5 w6 w7 hk)⟩
  · have q : ∃ H2, Inv L xs (n + 1) H2 ∧ ∀ (r : pd_Out × pd_H) (w5 w6 w7 : Value), (∀ w5 w6 w7 : Value, Rn 201 1951 [.ref 0, .ref 1, .ref 102, .ref 116, .int (ii (i : Int)), w5, w6, w7] [] H2 r) → Rn 201 1540 [.ref 0, .ref 1, .ref 102, .ref 116, .int (ii (i : Int)), w5, w6, w7] [] H r := by
      exact k27 hL5 hL hx I
    obtain ⟨H2, I2, h⟩ := q
    exact ⟨H2, I2, fun r w5 w6 w7 hk => E_tsw pf_201_39 (by omega) rfl (h r w5 w6 w7 hk)⟩
  · have q : ∃ H2, Inv L xs (n + 1) H2 ∧ ∀ (r : pd_Out × pd_H) (w5 w6 w7 : Value), (∀ w5 w6 w7 : Value, Rn 201 1951 [.ref 0, .ref 1, .ref 102, .ref 116, .int (ii (i : Int)), w5, w6, w7] [] H2 r) → Rn 201 1640 [.ref 0, .ref 1, .ref 102, .ref 116, .int (ii (i : Int)), w5, w6, w7] [] H r := by
      exact k28 hL5 hL hx I
    obtain ⟨H2, I2, h⟩ := q
    exact ⟨H2, I2, fun r w5 w6 w7 hk => E_tsw pf_201_39 (by omega) rfl (h r w5 w6 w7 hk)⟩
  · have q : ∃ H2, Inv L xs (n + 1) H2 ∧ ∀ (r : pd_Out × pd_H) (w5 w6 w7 : Value), (∀ w5 w6 w7 : Value, Rn 201 1951 [.ref 0, .ref 1, .ref 102, .ref 116, .int (ii (i : Int)), w5, w6, w7] [] H2 r) → Rn 201 1740 [.ref 0, .ref 1, .ref 102, .ref 116, .int (ii (i : Int)), w5, w6, w7] [] H r := by
      exact k29 hL5 hL hx I
    obtain ⟨H2, I2, h⟩ := q
    exact ⟨H2, I2, fun r w5 w6 w7 hk => E_tsw pf_201_39 (by omega) rfl (h r w5 w6 w7 hk)⟩
  · have q : ∃ H2, Inv L xs (n + 1) H2 ∧ ∀ (r : pd_Out × pd_H) (w5 w6 w7 : Value), (∀ w5 w6 w7 : Value, Rn 201 1951 [.ref 0, .ref 1, .ref 102, .ref 116, .int (ii (i : Int)), w5, w6, w7] [] H2 r) → Rn 201 1839 [.ref 0, .ref 1, .ref 102, .ref 116, .int (ii (i : Int)), w5, w6, w7] [] H r := by
      exact k30 hL5 hL hx I
    obtain ⟨H2, I2, h⟩ := q
    exact ⟨H2, I2, fun r w5 w6 w7 hk => E_tsw pf_201_39 (by omega) rfl (h r w5 w6 w7 hk)⟩
  · have q : ∃ H2, Inv L xs (n + 1) H2 ∧ ∀ (r : pd_Out × pd_H) (w5 w6 w7 : Value), (∀ w5 w6 w7 : Value, Rn 201 1951 [.ref 0, .ref 1, .ref 102, .ref 116, .int (ii (i : Int)), w5, w6, w7] [] H2 r) → Rn 201 1895 [.ref 0, .ref 1, .ref 102, .ref 116, .int (ii (i : Int)), w5, w6, w7] [] H r := by
      exact k31 hL5 hL hx I
    obtain ⟨H2, I2, h⟩ := q
    exact ⟨H2, I2, fun r w5 w6 w7 hk => E_tsw pf_201_39 (by omega) rfl (h r w5 w6 w7 hk)⟩
theorem law_loop {L : Nat} {xs : Int → Int} (hL : L ≤ 2560) (hx : ∀ q : Int, -2147483648 ≤ xs q ∧ xs q ≤ 2147483647) : ∀ (k i n : Nat) (H : pd_H), L < i + 5 * k + 5 → i ≤ 2560 + 5 → 5 * n ≤ i → Inv L xs n H → ∃ h' : pd_H, (∀ w5 w6 w7 : Value, Rn 201 23 [.ref 0, .ref 1, .ref 102, .ref 116, .int (ii (i : Int)), w5, w6, w7] [] H (.inl (some (.int (ii 1))), h')) ∧ h'.1.1 ≤ 601024 ∧ h'.1.2.1 ≤ 7293034 := by
  intro k
  induction k with
  | zero =>
    intro i n H h1 h2 h3 I
    obtain ⟨g0, g1, g2⟩ := Inv_get I
    refine ⟨H, fun w5 w6 w7 => ?_, by omega, by omega⟩
    refine E_iload pf_201_23 rfl ?_
    refine E_aload pf_201_25 rfl ?_
    refine E_alenS pf_201_26 g0 ?_
    refine E_iconst pf_201_27 ?_
    refine E_isub pf_201_28 ?_
    refine E_icmp_gt_t pf_201_29 (by omega) ?_
    refine E_iconst pf_201_1957 ?_
    exact E_iret pf_201_1958 rfl
  | succ k ih =>
    intro i n H h1 h2 h3 I
    obtain ⟨g0, g1, g2⟩ := Inv_get I
    by_cases hL5 : (i : Int) + 5 ≤ L
    · obtain ⟨a, ha, ea⟩ := and31 (ii (xs (i : Int)))
      obtain ⟨H2, I2, hc⟩ := law_case ha hL5 hL hx I
      obtain ⟨h', d1, d2, d3⟩ := ih (i + 5) (n + 1) H2 (by omega) (by omega) (by omega) I2
      refine ⟨h', fun w5 w6 w7 => ?_, d2, d3⟩
      refine E_iload pf_201_23 rfl ?_
      refine E_aload pf_201_25 rfl ?_
      refine E_alenS pf_201_26 g0 ?_
      refine E_iconst pf_201_27 ?_
      refine E_isub pf_201_28 ?_
      refine E_icmp_gt_f pf_201_29 (by omega) ?_
      refine E_aload pf_201_32 rfl ?_
      refine E_iload pf_201_33 rfl ?_
      refine E_sald pf_201_35 g0 (by omega) ?_
      refine E_iconst pf_201_36 ?_
      refine E_iand pf_201_38 ?_
      refine E_top (congrArg Value.int ea) ?_
      refine hc _ w5 w6 w7 fun w5 w6 w7 => ?_
      refine E_iinc (lv' := [_, _, _, _, _, _, _, _]) pf_201_1951 rfl rfl ?_
      refine E_goto pf_201_1954 ?_
      exact d1 w5 w6 w7
    · refine ⟨H, fun w5 w6 w7 => ?_, by omega, by omega⟩
      refine E_iload pf_201_23 rfl ?_
      refine E_aload pf_201_25 rfl ?_
      refine E_alenS pf_201_26 g0 ?_
      refine E_iconst pf_201_27 ?_
      refine E_isub pf_201_28 ?_
      refine E_icmp_gt_t pf_201_29 (by omega) ?_
      refine E_iconst pf_201_1957 ?_
      exact E_iret pf_201_1958 rfl
theorem h0_eq (L : Nat) (xs : Nat → Int32) : pd_h0 L xs = wd [(0, sr L (fun z => (xs z.toNat).toInt))] ((0, 0, 0), fun _ => pd_dead) := by
  refine Prod.ext rfl ?_
  funext k
  show (if k = 0 then _ else _) = (if k = 0 then _ else _)
  split
  · unfold sr
    congr 4
    funext j
    exact (ii_self (xs j)).symm
  · rfl
set_option maxRecDepth 100000 in
set_option maxHeartbeats 8000000 in
theorem inv0 {L s : Nat} {xs : Nat → Int32} {C' c' : Int → Int} {f : Nat → pd_E} (hs : s ≤ 9000) (y1 : ∀ q, -9 ≤ C' q ∧ C' q ≤ 9) (y2 : kl C' 2 = [0, 32768]) : Inv L (fun z => (xs z.toNat).toInt) 0 (wd ((116, lr 1 (fun _ => 0)) :: ([(102, oX6 0 0 0 1 0 2 1 0 0 0 0 0), (103, ar 90 (fun _ => 0)), (104, ar 128 (zu (fun _ => 0) 4 1)), (105, ar 128 (fun _ => 0)), (106, ar 72 (fun _ => 0)), (107, ar 72 (zu (zu (zu (fun _ => 0) 0 1) 44 100) 68 1)), (108, ar 72 (fun _ => 0)), (109, ar 1008 (fun _ => 0)), (110, ar 144 (fun _ => 0)), (111, br 2 (fun _ => 0)), (112, ar 24 (fun _ => 0)), (113, lr 4 (fun _ => 0)), (114, lr 4 (fun _ => 0)), (115, ar 4 (fun _ => 0))] ++ ((102, ob 6 [.int (ii 0), .null, .int (ii 0), .int (ii 0), .int (ii 0), .int (ii 0), .int (ii 0), .int (ii 0), .null, .int (ii 0), .int (ii 0), .int (ii 0), .int (ii 0), .null, .null, .null, .null, .null, .int (ii 0), .null, .null, .null, .null, .null, .null]) :: ([(1, oPD 0), (2, ar 90 (fun _ => 0)), (3, oR 0 0), (4, ar 4 (fun _ => 0)), (5, oP5 0 0 0), (6, ar 96 (fun _ => 0)), (7, ar 4 (fun _ => 0)), (8, ar 4 (fun _ => 0)), (9, oS9 0 0 0 0), (10, ar 20 (fun _ => 0)), (11, ar 24 (fun _ => 0)), (12, ar 24 (fun _ => 0)), (13, oP 1 0 ((2 : Nat) : Int)), (14, ar 96 C'), (15, ar 4 c'), (16, ar 4 (fun _ => 0)), (17, ar 4 (zu (fun _ => 0) 0 1)), (18, oD 0 0), (19, ar 4 (fun _ => 0)), (20, ar 4 (fun _ => 0)), (21, lr 4 (fun _ => 0)), (22, ar 4 (fun _ => 0)), (23, ar 24 (fun _ => 0)), (24, oS24 1 1 0 0), (25, ar 20 (zu (fun _ => 0) 0 1)), (26, ar 24 (zu (fun _ => 0) 0 0)), (27, ar 24 (zu (fun _ => 0) 0 100)), (28, ob 4 [.int (ii 0), .ref 29, .int (ii 0), .ref 30, .ref 31, .int (ii 0), .int (ii 0)]), (29, ar 20 (fun _ => 0)), (30, ar 24 (fun _ => 0)), (31, ar 24 (fun _ => 0)), (32, ob 1 [.int (ii 0), .int (ii 0), .ref 33]), (33, rr 14 rq34), (34, ob 4 [.int (ii 0), .ref 35, .int (ii 0), .ref 36, .ref 37, .int (ii 0), .int (ii 0)]), (35, ar 20 (fun _ => 0)), (36, ar 24 (fun _ => 0)), (37, ar 24 (fun _ => 0)), (38, ob 4 [.int (ii 0), .ref 39, .int (ii 0), .ref 40, .ref 41, .int (ii 0), .int (ii 0)]), (39, ar 20 (fun _ => 0)), (40, ar 24 (fun _ => 0)), (41, ar 24 (fun _ => 0)), (42, ob 4 [.int (ii 0), .ref 43, .int (ii 0), .ref 44, .ref 45, .int (ii 0), .int (ii 0)]), (43, ar 20 (fun _ => 0)), (44, ar 24 (fun _ => 0)), (45, ar 24 (fun _ => 0)), (46, ob 4 [.int (ii 0), .ref 47, .int (ii 0), .ref 48, .ref 49, .int (ii 0), .int (ii 0)]), (47, ar 20 (fun _ => 0)), (48, ar 24 (fun _ => 0)), (49, ar 24 (fun _ => 0)), (50, ob 4 [.int (ii 0), .ref 51, .int (ii 0), .ref 52, .ref 53, .int (ii 0), .int (ii 0)]), (51, ar 20 (fun _ => 0)), (52, ar 24 (fun _ => 0)), (53, ar 24 (fun _ => 0)), (54, ob 4 [.int (ii 0), .ref 55, .int (ii 0), .ref 56, .ref 57, .int (ii 0), .int (ii 0)]), (55, ar 20 (fun _ => 0)), (56, ar 24 (fun _ => 0)), (57, ar 24 (fun _ => 0)), (58, ob 4 [.int (ii 0), .ref 59, .int (ii 0), .ref 60, .ref 61, .int (ii 0), .int (ii 0)]), (59, ar 20 (fun _ => 0)), (60, ar 24 (fun _ => 0)), (61, ar 24 (fun _ => 0)), (62, ob 4 [.int (ii 0), .ref 63, .int (ii 0), .ref 64, .ref 65, .int (ii 0), .int (ii 0)]), (63, ar 20 (fun _ => 0)), (64, ar 24 (fun _ => 0)), (65, ar 24 (fun _ => 0)), (66, ob 4 [.int (ii 0), .ref 67, .int (ii 0), .ref 68, .ref 69, .int (ii 0), .int (ii 0)]), (67, ar 20 (fun _ => 0)), (68, ar 24 (fun _ => 0)), (69, ar 24 (fun _ => 0)), (70, ob 4 [.int (ii 0), .ref 71, .int (ii 0), .ref 72, .ref 73, .int (ii 0), .int (ii 0)]), (71, ar 20 (fun _ => 0)), (72, ar 24 (fun _ => 0)), (73, ar 24 (fun _ => 0)), (74, ob 4 [.int (ii 0), .ref 75, .int (ii 0), .ref 76, .ref 77, .int (ii 0), .int (ii 0)]), (75, ar 20 (fun _ => 0)), (76, ar 24 (fun _ => 0)), (77, ar 24 (fun _ => 0)), (78, ob 4 [.int (ii 0), .ref 79, .int (ii 0), .ref 80, .ref 81, .int (ii 0), .int (ii 0)]), (79, ar 20 (fun _ => 0)), (80, ar 24 (fun _ => 0)), (81, ar 24 (fun _ => 0)), (82, ob 4 [.int (ii 0), .ref 83, .int (ii 0), .ref 84, .ref 85, .int (ii 0), .int (ii 0)]), (83, ar 20 (fun _ => 0)), (84, ar 24 (fun _ => 0)), (85, ar 24 (fun _ => 0)), (86, ob 4 [.int (ii 0), .ref 87, .int (ii 0), .ref 88, .ref 89, .int (ii 0), .int (ii 0)]), (87, ar 20 (fun _ => 0)), (88, ar 24 (fun _ => 0)), (89, ar 24 (fun _ => 0)), (90, rr 2 rq91), (91, ob 4 [.int (ii 0), .ref 92, .int (ii 0), .ref 93, .ref 94, .int (ii 0), .int (ii 0)]), (92, ar 20 (fun _ => 0)), (93, ar 24 (fun _ => 0)), (94, ar 24 (fun _ => 0)), (95, ob 4 [.int (ii 0), .ref 96, .int (ii 0), .ref 97, .ref 98, .int (ii 0), .int (ii 0)]), (96, ar 20 (fun _ => 0)), (97, ar 24 (fun _ => 0)), (98, ar 24 (fun _ => 0)), (99, br 2 (fun _ => 0)), (100, lr 4 (fun _ => 0)), (101, ar 4 (fun _ => 0))] ++ [(1, ob 5 [.null, .int (ii 0), .null, .null, .null, .null, .null, .null, .null, .null, .null, .null, .null]), (0, sr L (fun z => (xs z.toNat).toInt))])))) ((116, s, 116), f)) := by
  have hP : ∀ q, -9 ≤ zu (fun _ => 0) 4 1 q ∧ zu (fun _ => 0) 4 1 q ≤ 9 := fun q => by
    unfold zu; split
    · omega
    · show -9 ≤ (0 : Int) ∧ (0 : Int) ≤ 9; omega
  have kP : kl (zu (fun _ => 0) 4 1) 2 = [0, 32768] := by decide
  refine ⟨0, fun _ => 0, fun _ => 0, 1, 2, 1, 0, 0, 0, fun _ => 0, (fun a => if a = 14 then C' else if a = 15 then c' else if a = 17 then zu (fun _ => 0) 0 1 else if a = 104 then zu (fun _ => 0) 4 1 else if a = 107 then zu (zu (zu (fun _ => 0) 0 1) 44 100) 68 1 else fun _ => 0), (tup 1 (zu (fun _ => 0) 0 1) 1 (zu (fun _ => 0) 0 0) (zu (fun _ => 0) 0 100) 0 0), (0, fun _ => 0, 0, fun _ => 0, fun _ => 0, 0, 0), fun _ => (0, fun _ => 0, 0, fun _ => 0, fun _ => 0, 0, 0), fun _ => (0, fun _ => 0, 0, fun _ => 0, fun _ => 0, 0, 0), wd ((116, lr 1 (fun _ => 0)) :: ([(102, oX6 0 0 0 1 0 2 1 0 0 0 0 0), (103, ar 90 (fun _ => 0)), (104, ar 128 (zu (fun _ => 0) 4 1)), (105, ar 128 (fun _ => 0)), (106, ar 72 (fun _ => 0)), (107, ar 72 (zu (zu (zu (fun _ => 0) 0 1) 44 100) 68 1)), (108, ar 72 (fun _ => 0)), (109, ar 1008 (fun _ => 0)), (110, ar 144 (fun _ => 0)), (111, br 2 (fun _ => 0)), (112, ar 24 (fun _ => 0)), (113, lr 4 (fun _ => 0)), (114, lr 4 (fun _ => 0)), (115, ar 4 (fun _ => 0))] ++ ((102, ob 6 [.int (ii 0), .null, .int (ii 0), .int (ii 0), .int (ii 0), .int (ii 0), .int (ii 0), .int (ii 0), .null, .int (ii 0), .int (ii 0), .int (ii 0), .int (ii 0), .null, .null, .null, .null, .null, .int (ii 0), .null, .null, .null, .null, .null, .null]) :: ([(1, oPD 0), (2, ar 90 (fun _ => 0)), (3, oR 0 0), (4, ar 4 (fun _ => 0)), (5, oP5 0 0 0), (6, ar 96 (fun _ => 0)), (7, ar 4 (fun _ => 0)), (8, ar 4 (fun _ => 0)), (9, oS9 0 0 0 0), (10, ar 20 (fun _ => 0)), (11, ar 24 (fun _ => 0)), (12, ar 24 (fun _ => 0)), (13, oP 1 0 ((2 : Nat) : Int)), (14, ar 96 C'), (15, ar 4 c'), (16, ar 4 (fun _ => 0)), (17, ar 4 (zu (fun _ => 0) 0 1)), (18, oD 0 0), (19, ar 4 (fun _ => 0)), (20, ar 4 (fun _ => 0)), (21, lr 4 (fun _ => 0)), (22, ar 4 (fun _ => 0)), (23, ar 24 (fun _ => 0)), (24, oS24 1 1 0 0), (25, ar 20 (zu (fun _ => 0) 0 1)), (26, ar 24 (zu (fun _ => 0) 0 0)), (27, ar 24 (zu (fun _ => 0) 0 100)), (28, ob 4 [.int (ii 0), .ref 29, .int (ii 0), .ref 30, .ref 31, .int (ii 0), .int (ii 0)]), (29, ar 20 (fun _ => 0)), (30, ar 24 (fun _ => 0)), (31, ar 24 (fun _ => 0)), (32, ob 1 [.int (ii 0), .int (ii 0), .ref 33]), (33, rr 14 rq34), (34, ob 4 [.int (ii 0), .ref 35, .int (ii 0), .ref 36, .ref 37, .int (ii 0), .int (ii 0)]), (35, ar 20 (fun _ => 0)), (36, ar 24 (fun _ => 0)), (37, ar 24 (fun _ => 0)), (38, ob 4 [.int (ii 0), .ref 39, .int (ii 0), .ref 40, .ref 41, .int (ii 0), .int (ii 0)]), (39, ar 20 (fun _ => 0)), (40, ar 24 (fun _ => 0)), (41, ar 24 (fun _ => 0)), (42, ob 4 [.int (ii 0), .ref 43, .int (ii 0), .ref 44, .ref 45, .int (ii 0), .int (ii 0)]), (43, ar 20 (fun _ => 0)), (44, ar 24 (fun _ => 0)), (45, ar 24 (fun _ => 0)), (46, ob 4 [.int (ii 0), .ref 47, .int (ii 0), .ref 48, .ref 49, .int (ii 0), .int (ii 0)]), (47, ar 20 (fun _ => 0)), (48, ar 24 (fun _ => 0)), (49, ar 24 (fun _ => 0)), (50, ob 4 [.int (ii 0), .ref 51, .int (ii 0), .ref 52, .ref 53, .int (ii 0), .int (ii 0)]), (51, ar 20 (fun _ => 0)), (52, ar 24 (fun _ => 0)), (53, ar 24 (fun _ => 0)), (54, ob 4 [.int (ii 0), .ref 55, .int (ii 0), .ref 56, .ref 57, .int (ii 0), .int (ii 0)]), (55, ar 20 (fun _ => 0)), (56, ar 24 (fun _ => 0)), (57, ar 24 (fun _ => 0)), (58, ob 4 [.int (ii 0), .ref 59, .int (ii 0), .ref 60, .ref 61, .int (ii 0), .int (ii 0)]), (59, ar 20 (fun _ => 0)), (60, ar 24 (fun _ => 0)), (61, ar 24 (fun _ => 0)), (62, ob 4 [.int (ii 0), .ref 63, .int (ii 0), .ref 64, .ref 65, .int (ii 0), .int (ii 0)]), (63, ar 20 (fun _ => 0)), (64, ar 24 (fun _ => 0)), (65, ar 24 (fun _ => 0)), (66, ob 4 [.int (ii 0), .ref 67, .int (ii 0), .ref 68, .ref 69, .int (ii 0), .int (ii 0)]), (67, ar 20 (fun _ => 0)), (68, ar 24 (fun _ => 0)), (69, ar 24 (fun _ => 0)), (70, ob 4 [.int (ii 0), .ref 71, .int (ii 0), .ref 72, .ref 73, .int (ii 0), .int (ii 0)]), (71, ar 20 (fun _ => 0)), (72, ar 24 (fun _ => 0)), (73, ar 24 (fun _ => 0)), (74, ob 4 [.int (ii 0), .ref 75, .int (ii 0), .ref 76, .ref 77, .int (ii 0), .int (ii 0)]), (75, ar 20 (fun _ => 0)), (76, ar 24 (fun _ => 0)), (77, ar 24 (fun _ => 0)), (78, ob 4 [.int (ii 0), .ref 79, .int (ii 0), .ref 80, .ref 81, .int (ii 0), .int (ii 0)]), (79, ar 20 (fun _ => 0)), (80, ar 24 (fun _ => 0)), (81, ar 24 (fun _ => 0)), (82, ob 4 [.int (ii 0), .ref 83, .int (ii 0), .ref 84, .ref 85, .int (ii 0), .int (ii 0)]), (83, ar 20 (fun _ => 0)), (84, ar 24 (fun _ => 0)), (85, ar 24 (fun _ => 0)), (86, ob 4 [.int (ii 0), .ref 87, .int (ii 0), .ref 88, .ref 89, .int (ii 0), .int (ii 0)]), (87, ar 20 (fun _ => 0)), (88, ar 24 (fun _ => 0)), (89, ar 24 (fun _ => 0)), (90, rr 2 rq91), (91, ob 4 [.int (ii 0), .ref 92, .int (ii 0), .ref 93, .ref 94, .int (ii 0), .int (ii 0)]), (92, ar 20 (fun _ => 0)), (93, ar 24 (fun _ => 0)), (94, ar 24 (fun _ => 0)), (95, ob 4 [.int (ii 0), .ref 96, .int (ii 0), .ref 97, .ref 98, .int (ii 0), .int (ii 0)]), (96, ar 20 (fun _ => 0)), (97, ar 24 (fun _ => 0)), (98, ar 24 (fun _ => 0)), (99, br 2 (fun _ => 0)), (100, lr 4 (fun _ => 0)), (101, ar 4 (fun _ => 0))] ++ [(1, ob 5 [.null, .int (ii 0), .null, .null, .null, .null, .null, .null, .null, .null, .null, .null, .null]), (0, sr L (fun z => (xs z.toNat).toInt))])))) ((116, s, 116), f), ?_, ⟨by omega, fun _ => by show (0 : Int) ≤ 0 ∧ (0 : Int) ≤ 255; omega, fun _ => by show -9 ≤ (0 : Int) ∧ (0 : Int) ≤ 9; omega, fun _ => by show -9 ≤ (0 : Int) ∧ (0 : Int) ≤ 9; omega, fun _ => by show -9 ≤ (0 : Int) ∧ (0 : Int) ≤ 9; omega, ⟨⟨by omega, by omega, by omega, y1⟩, ⟨by omega, by omega, by omega, hP⟩, fun v j h1 h2 h3 h4 => kl_same y1 hP (y2.trans kP.symm) ⟨h1, h2⟩ ⟨h3, h4⟩, fun v j h1 h2 h3 h4 => ?_⟩, ⟨_, _, _, _, _, 1, rfl, ?_⟩, memk_0, .inl rfl, .inl rfl⟩, ?_, ?_⟩
  · have e1 := wd_same (h := ((116, s, 116), f)) (l := ((116, lr 1 (fun _ => 0)) :: ([(102, oX6 0 0 0 1 0 2 1 0 0 0 0 0), (103, ar 90 (fun _ => 0)), (104, ar 128 (zu (fun _ => 0) 4 1)), (105, ar 128 (fun _ => 0)), (106, ar 72 (fun _ => 0)), (107, ar 72 (zu (zu (zu (fun _ => 0) 0 1) 44 100) 68 1)), (108, ar 72 (fun _ => 0)), (109, ar 1008 (fun _ => 0)), (110, ar 144 (fun _ => 0)), (111, br 2 (fun _ => 0)), (112, ar 24 (fun _ => 0)), (113, lr 4 (fun _ => 0)), (114, lr 4 (fun _ => 0)), (115, ar 4 (fun _ => 0))] ++ ((102, ob 6 [.int (ii 0), .null, .int (ii 0), .int (ii 0), .int (ii 0), .int (ii 0), .int (ii 0), .int (ii 0), .null, .int (ii 0), .int (ii 0), .int (ii 0), .int (ii 0), .null, .null, .null, .null, .null, .int (ii 0), .null, .null, .null, .null, .null, .null]) :: ([(1, oPD 0), (2, ar 90 (fun _ => 0)), (3, oR 0 0), (4, ar 4 (fun _ => 0)), (5, oP5 0 0 0), (6, ar 96 (fun _ => 0)), (7, ar 4 (fun _ => 0)), (8, ar 4 (fun _ => 0)), (9, oS9 0 0 0 0), (10, ar 20 (fun _ => 0)), (11, ar 24 (fun _ => 0)), (12, ar 24 (fun _ => 0)), (13, oP 1 0 ((2 : Nat) : Int)), (14, ar 96 C'), (15, ar 4 c'), (16, ar 4 (fun _ => 0)), (17, ar 4 (zu (fun _ => 0) 0 1)), (18, oD 0 0), (19, ar 4 (fun _ => 0)), (20, ar 4 (fun _ => 0)), (21, lr 4 (fun _ => 0)), (22, ar 4 (fun _ => 0)), (23, ar 24 (fun _ => 0)), (24, oS24 1 1 0 0), (25, ar 20 (zu (fun _ => 0) 0 1)), (26, ar 24 (zu (fun _ => 0) 0 0)), (27, ar 24 (zu (fun _ => 0) 0 100)), (28, ob 4 [.int (ii 0), .ref 29, .int (ii 0), .ref 30, .ref 31, .int (ii 0), .int (ii 0)]), (29, ar 20 (fun _ => 0)), (30, ar 24 (fun _ => 0)), (31, ar 24 (fun _ => 0)), (32, ob 1 [.int (ii 0), .int (ii 0), .ref 33]), (33, rr 14 rq34), (34, ob 4 [.int (ii 0), .ref 35, .int (ii 0), .ref 36, .ref 37, .int (ii 0), .int (ii 0)]), (35, ar 20 (fun _ => 0)), (36, ar 24 (fun _ => 0)), (37, ar 24 (fun _ => 0)), (38, ob 4 [.int (ii 0), .ref 39, .int (ii 0), .ref 40, .ref 41, .int (ii 0), .int (ii 0)]), (39, ar 20 (fun _ => 0)), (40, ar 24 (fun _ => 0)), (41, ar 24 (fun _ => 0)), (42, ob 4 [.int (ii 0), .ref 43, .int (ii 0), .ref 44, .ref 45, .int (ii 0), .int (ii 0)]), (43, ar 20 (fun _ => 0)), (44, ar 24 (fun _ => 0)), (45, ar 24 (fun _ => 0)), (46, ob 4 [.int (ii 0), .ref 47, .int (ii 0), .ref 48, .ref 49, .int (ii 0), .int (ii 0)]), (47, ar 20 (fun _ => 0)), (48, ar 24 (fun _ => 0)), (49, ar 24 (fun _ => 0)), (50, ob 4 [.int (ii 0), .ref 51, .int (ii 0), .ref 52, .ref 53, .int (ii 0), .int (ii 0)]), (51, ar 20 (fun _ => 0)), (52, ar 24 (fun _ => 0)), (53, ar 24 (fun _ => 0)), (54, ob 4 [.int (ii 0), .ref 55, .int (ii 0), .ref 56, .ref 57, .int (ii 0), .int (ii 0)]), (55, ar 20 (fun _ => 0)), (56, ar 24 (fun _ => 0)), (57, ar 24 (fun _ => 0)), (58, ob 4 [.int (ii 0), .ref 59, .int (ii 0), .ref 60, .ref 61, .int (ii 0), .int (ii 0)]), (59, ar 20 (fun _ => 0)), (60, ar 24 (fun _ => 0)), (61, ar 24 (fun _ => 0)), (62, ob 4 [.int (ii 0), .ref 63, .int (ii 0), .ref 64, .ref 65, .int (ii 0), .int (ii 0)]), (63, ar 20 (fun _ => 0)), (64, ar 24 (fun _ => 0)), (65, ar 24 (fun _ => 0)), (66, ob 4 [.int (ii 0), .ref 67, .int (ii 0), .ref 68, .ref 69, .int (ii 0), .int (ii 0)]), (67, ar 20 (fun _ => 0)), (68, ar 24 (fun _ => 0)), (69, ar 24 (fun _ => 0)), (70, ob 4 [.int (ii 0), .ref 71, .int (ii 0), .ref 72, .ref 73, .int (ii 0), .int (ii 0)]), (71, ar 20 (fun _ => 0)), (72, ar 24 (fun _ => 0)), (73, ar 24 (fun _ => 0)), (74, ob 4 [.int (ii 0), .ref 75, .int (ii 0), .ref 76, .ref 77, .int (ii 0), .int (ii 0)]), (75, ar 20 (fun _ => 0)), (76, ar 24 (fun _ => 0)), (77, ar 24 (fun _ => 0)), (78, ob 4 [.int (ii 0), .ref 79, .int (ii 0), .ref 80, .ref 81, .int (ii 0), .int (ii 0)]), (79, ar 20 (fun _ => 0)), (80, ar 24 (fun _ => 0)), (81, ar 24 (fun _ => 0)), (82, ob 4 [.int (ii 0), .ref 83, .int (ii 0), .ref 84, .ref 85, .int (ii 0), .int (ii 0)]), (83, ar 20 (fun _ => 0)), (84, ar 24 (fun _ => 0)), (85, ar 24 (fun _ => 0)), (86, ob 4 [.int (ii 0), .ref 87, .int (ii 0), .ref 88, .ref 89, .int (ii 0), .int (ii 0)]), (87, ar 20 (fun _ => 0)), (88, ar 24 (fun _ => 0)), (89, ar 24 (fun _ => 0)), (90, rr 2 rq91), (91, ob 4 [.int (ii 0), .ref 92, .int (ii 0), .ref 93, .ref 94, .int (ii 0), .int (ii 0)]), (92, ar 20 (fun _ => 0)), (93, ar 24 (fun _ => 0)), (94, ar 24 (fun _ => 0)), (95, ob 4 [.int (ii 0), .ref 96, .int (ii 0), .ref 97, .ref 98, .int (ii 0), .int (ii 0)]), (96, ar 20 (fun _ => 0)), (97, ar 24 (fun _ => 0)), (98, ar 24 (fun _ => 0)), (99, br 2 (fun _ => 0)), (100, lr 4 (fun _ => 0)), (101, ar 4 (fun _ => 0))] ++ [(1, ob 5 [.null, .int (ii 0), .null, .null, .null, .null, .null, .null, .null, .null, .null, .null, .null]), (0, sr L (fun z => (xs z.toNat).toInt))]))))) (lc := LMm ((0 : Nat) : Int) ((0 : Nat) : Int) (fun _ => (0, fun _ => 0, 0, fun _ => 0, fun _ => 0, 0, 0))) (And.intro rfl (And.intro rfl (And.intro rfl (And.intro rfl (And.intro rfl (And.intro rfl (And.intro rfl (And.intro rfl (And.intro rfl (And.intro rfl (And.intro rfl (And.intro rfl (And.intro rfl (And.intro rfl (And.intro rfl (And.intro rfl (And.intro rfl (And.intro rfl (And.intro rfl (And.intro rfl (And.intro rfl (And.intro rfl (And.intro rfl (And.intro rfl (And.intro rfl (And.intro rfl (And.intro rfl (And.intro rfl (And.intro rfl (And.intro rfl (And.intro rfl (And.intro rfl (And.intro rfl (And.intro rfl (And.intro rfl (And.intro rfl (And.intro rfl (And.intro rfl (And.intro rfl (And.intro rfl (And.intro rfl (And.intro rfl (And.intro rfl (And.intro rfl (And.intro rfl (And.intro rfl (And.intro rfl (And.intro rfl (And.intro rfl (And.intro rfl (And.intro rfl (And.intro rfl (And.intro rfl (And.intro rfl (And.intro rfl (And.intro rfl (And.intro rfl (And.intro rfl (trivial)))))))))))))))))))))))))))))))))))))))))))))))))))))))))))
    have e2 := wd_same (h := ((116, s, 116), f)) (l := ((116, lr 1 (fun _ => 0)) :: ([(102, oX6 0 0 0 1 0 2 1 0 0 0 0 0), (103, ar 90 (fun _ => 0)), (104, ar 128 (zu (fun _ => 0) 4 1)), (105, ar 128 (fun _ => 0)), (106, ar 72 (fun _ => 0)), (107, ar 72 (zu (zu (zu (fun _ => 0) 0 1) 44 100) 68 1)), (108, ar 72 (fun _ => 0)), (109, ar 1008 (fun _ => 0)), (110, ar 144 (fun _ => 0)), (111, br 2 (fun _ => 0)), (112, ar 24 (fun _ => 0)), (113, lr 4 (fun _ => 0)), (114, lr 4 (fun _ => 0)), (115, ar 4 (fun _ => 0))] ++ ((102, ob 6 [.int (ii 0), .null, .int (ii 0), .int (ii 0), .int (ii 0), .int (ii 0), .int (ii 0), .int (ii 0), .null, .int (ii 0), .int (ii 0), .int (ii 0), .int (ii 0), .null, .null, .null, .null, .null, .int (ii 0), .null, .null, .null, .null, .null, .null]) :: ([(1, oPD 0), (2, ar 90 (fun _ => 0)), (3, oR 0 0), (4, ar 4 (fun _ => 0)), (5, oP5 0 0 0), (6, ar 96 (fun _ => 0)), (7, ar 4 (fun _ => 0)), (8, ar 4 (fun _ => 0)), (9, oS9 0 0 0 0), (10, ar 20 (fun _ => 0)), (11, ar 24 (fun _ => 0)), (12, ar 24 (fun _ => 0)), (13, oP 1 0 ((2 : Nat) : Int)), (14, ar 96 C'), (15, ar 4 c'), (16, ar 4 (fun _ => 0)), (17, ar 4 (zu (fun _ => 0) 0 1)), (18, oD 0 0), (19, ar 4 (fun _ => 0)), (20, ar 4 (fun _ => 0)), (21, lr 4 (fun _ => 0)), (22, ar 4 (fun _ => 0)), (23, ar 24 (fun _ => 0)), (24, oS24 1 1 0 0), (25, ar 20 (zu (fun _ => 0) 0 1)), (26, ar 24 (zu (fun _ => 0) 0 0)), (27, ar 24 (zu (fun _ => 0) 0 100)), (28, ob 4 [.int (ii 0), .ref 29, .int (ii 0), .ref 30, .ref 31, .int (ii 0), .int (ii 0)]), (29, ar 20 (fun _ => 0)), (30, ar 24 (fun _ => 0)), (31, ar 24 (fun _ => 0)), (32, ob 1 [.int (ii 0), .int (ii 0), .ref 33]), (33, rr 14 rq34), (34, ob 4 [.int (ii 0), .ref 35, .int (ii 0), .ref 36, .ref 37, .int (ii 0), .int (ii 0)]), (35, ar 20 (fun _ => 0)), (36, ar 24 (fun _ => 0)), (37, ar 24 (fun _ => 0)), (38, ob 4 [.int (ii 0), .ref 39, .int (ii 0), .ref 40, .ref 41, .int (ii 0), .int (ii 0)]), (39, ar 20 (fun _ => 0)), (40, ar 24 (fun _ => 0)), (41, ar 24 (fun _ => 0)), (42, ob 4 [.int (ii 0), .ref 43, .int (ii 0), .ref 44, .ref 45, .int (ii 0), .int (ii 0)]), (43, ar 20 (fun _ => 0)), (44, ar 24 (fun _ => 0)), (45, ar 24 (fun _ => 0)), (46, ob 4 [.int (ii 0), .ref 47, .int (ii 0), .ref 48, .ref 49, .int (ii 0), .int (ii 0)]), (47, ar 20 (fun _ => 0)), (48, ar 24 (fun _ => 0)), (49, ar 24 (fun _ => 0)), (50, ob 4 [.int (ii 0), .ref 51, .int (ii 0), .ref 52, .ref 53, .int (ii 0), .int (ii 0)]), (51, ar 20 (fun _ => 0)), (52, ar 24 (fun _ => 0)), (53, ar 24 (fun _ => 0)), (54, ob 4 [.int (ii 0), .ref 55, .int (ii 0), .ref 56, .ref 57, .int (ii 0), .int (ii 0)]), (55, ar 20 (fun _ => 0)), (56, ar 24 (fun _ => 0)), (57, ar 24 (fun _ => 0)), (58, ob 4 [.int (ii 0), .ref 59, .int (ii 0), .ref 60, .ref 61, .int (ii 0), .int (ii 0)]), (59, ar 20 (fun _ => 0)), (60, ar 24 (fun _ => 0)), (61, ar 24 (fun _ => 0)), (62, ob 4 [.int (ii 0), .ref 63, .int (ii 0), .ref 64, .ref 65, .int (ii 0), .int (ii 0)]), (63, ar 20 (fun _ => 0)), (64, ar 24 (fun _ => 0)), (65, ar 24 (fun _ => 0)), (66, ob 4 [.int (ii 0), .ref 67, .int (ii 0), .ref 68, .ref 69, .int (ii 0), .int (ii 0)]), (67, ar 20 (fun _ => 0)), (68, ar 24 (fun _ => 0)), (69, ar 24 (fun _ => 0)), (70, ob 4 [.int (ii 0), .ref 71, .int (ii 0), .ref 72, .ref 73, .int (ii 0), .int (ii 0)]), (71, ar 20 (fun _ => 0)), (72, ar 24 (fun _ => 0)), (73, ar 24 (fun _ => 0)), (74, ob 4 [.int (ii 0), .ref 75, .int (ii 0), .ref 76, .ref 77, .int (ii 0), .int (ii 0)]), (75, ar 20 (fun _ => 0)), (76, ar 24 (fun _ => 0)), (77, ar 24 (fun _ => 0)), (78, ob 4 [.int (ii 0), .ref 79, .int (ii 0), .ref 80, .ref 81, .int (ii 0), .int (ii 0)]), (79, ar 20 (fun _ => 0)), (80, ar 24 (fun _ => 0)), (81, ar 24 (fun _ => 0)), (82, ob 4 [.int (ii 0), .ref 83, .int (ii 0), .ref 84, .ref 85, .int (ii 0), .int (ii 0)]), (83, ar 20 (fun _ => 0)), (84, ar 24 (fun _ => 0)), (85, ar 24 (fun _ => 0)), (86, ob 4 [.int (ii 0), .ref 87, .int (ii 0), .ref 88, .ref 89, .int (ii 0), .int (ii 0)]), (87, ar 20 (fun _ => 0)), (88, ar 24 (fun _ => 0)), (89, ar 24 (fun _ => 0)), (90, rr 2 rq91), (91, ob 4 [.int (ii 0), .ref 92, .int (ii 0), .ref 93, .ref 94, .int (ii 0), .int (ii 0)]), (92, ar 20 (fun _ => 0)), (93, ar 24 (fun _ => 0)), (94, ar 24 (fun _ => 0)), (95, ob 4 [.int (ii 0), .ref 96, .int (ii 0), .ref 97, .ref 98, .int (ii 0), .int (ii 0)]), (96, ar 20 (fun _ => 0)), (97, ar 24 (fun _ => 0)), (98, ar 24 (fun _ => 0)), (99, br 2 (fun _ => 0)), (100, lr 4 (fun _ => 0)), (101, ar 4 (fun _ => 0))] ++ [(1, ob 5 [.null, .int (ii 0), .null, .null, .null, .null, .null, .null, .null, .null, .null, .null, .null]), (0, sr L (fun z => (xs z.toNat).toInt))]))))) (lc := FR L (fun z => (xs z.toNat).toInt) 0 (fun _ => 0) (fun _ => 0) 1 2 1 0 0 (fun _ => 0) (fun a => if a = 14 then C' else if a = 15 then c' else if a = 17 then zu (fun _ => 0) 0 1 else if a = 104 then zu (fun _ => 0) 4 1 else if a = 107 then zu (zu (zu (fun _ => 0) 0 1) 44 100) 68 1 else fun _ => 0) (tup 1 (zu (fun _ => 0) 0 1) 1 (zu (fun _ => 0) 0 0) (zu (fun _ => 0) 0 100) 0 0) (0, fun _ => 0, 0, fun _ => 0, fun _ => 0, 0, 0) (fun _ => (0, fun _ => 0, 0, fun _ => 0, fun _ => 0, 0, 0))) (And.intro rfl (And.intro rfl (And.intro rfl (And.intro rfl (And.intro rfl (And.intro rfl (And.intro rfl (And.intro rfl (And.intro rfl (And.intro rfl (And.intro rfl (And.intro rfl (And.intro rfl (And.intro rfl (And.intro rfl (And.intro rfl (And.intro rfl (And.intro rfl (And.intro rfl (And.intro rfl (And.intro rfl (And.intro rfl (And.intro rfl (And.intro rfl (And.intro rfl (And.intro rfl (And.intro rfl (And.intro rfl (And.intro rfl (And.intro rfl (And.intro rfl (And.intro rfl (And.intro rfl (And.intro rfl (And.intro rfl (And.intro rfl (And.intro rfl (And.intro rfl (And.intro rfl (And.intro rfl (And.intro rfl (And.intro rfl (And.intro rfl (And.intro rfl (And.intro rfl (And.intro rfl (And.intro rfl (And.intro rfl (And.intro rfl (And.intro rfl (And.intro rfl (And.intro rfl (And.intro rfl (And.intro rfl (And.intro rfl (And.intro rfl (And.intro rfl (And.intro rfl (And.intro rfl (trivial))))))))))))))))))))))))))))))))))))))))))))))))))))))))))))
    rw [e1]
    exact e2.symm
  · show zu (fun _ => 0) 4 1 (4 * v + j) = 0
    exact zu_n _ _ (by omega)
  · refine ⟨fun q h1 h2 => ?_, ⟨fun a j h1 h2 h3 h4 => ?_, fun a h1 h2 => ?_⟩, fun j hj => ?_, rfl, ?_, rfl, rfl⟩
    · show zu (fun _ => 0) 0 1 q = zu (zu (zu (fun _ => 0) 0 1) 44 100) 68 1 q
      rw [zu_n (zu (zu (fun _ => 0) 0 1) 44 100) 1 (show q ≠ 68 by omega), zu_n (zu (fun _ => 0) 0 1) 100 (show q ≠ 44 by omega)]
    · unfold zu; split
      · omega
      · show -9 ≤ (0 : Int) ∧ (0 : Int) ≤ 9; omega
    · unfold zu; split
      · omega
      · show -99 ≤ (0 : Int) ∧ (0 : Int) ≤ 99; omega
    · obtain rfl : j = 0 := by omega
      exact ⟨rfl, rfl⟩
    · have e : zl (zu (fun _ => 0) 0 0) (zu (fun _ => 0) 0 100) 1 = [(0, 100)] := rfl
      rw [e]
      refine ⟨⟨fun q hq => ?_, by simp⟩, fun q hq => ?_, by simp [mxs]⟩
      · rw [List.mem_singleton.mp hq]; show (0 : Int) ≤ 0 ∧ (0 : Int) < ((2 : Nat) : Int) ∧ (0 : Int) ≤ 100; omega
      · rw [List.mem_singleton.mp hq]; show (0 : Int) < 100; omega
  · rw [wd_1]; show 116 ≤ 200 + 0; omega
  · rw [wd_1]; show s ≤ 10000 + 6 * 0; omega
set_option maxRecDepth 100000 in
set_option maxHeartbeats 8000000 in
theorem pd_pure (L : Nat) (hL : L ≤ 2560) (xs : Nat → Int32) : ∃ h', Ca 201 [.ref 0] (pd_h0 L xs) (.inl (some (.int 1)), h') ∧ h'.1.1 ≤ 601024 ∧ h'.1.2.1 ≤ 7293034 := by
  obtain ⟨C', c', y1, y2, h62⟩ := n62
  obtain ⟨h', d1, d2, d3⟩ := law_loop (L := L) (xs := (fun z => (xs z.toNat).toInt)) hL (fun q => ⟨Int32.le_toInt _, Int32.toInt_le _⟩) 512 0 0 _ (by omega) (by omega) (by omega) (inv0 (L := L) (s := 3617) (xs := xs) (f := fun _ => pd_dead) (by omega) y1 y2)
  refine ⟨h', ?_, d2, d3⟩
  rw [h0_eq]
  refine E_in (lv := [_, _, _, _, _, _, _, _]) rfl ?_
  refine P_new (x := ob 5 [.null, .int (ii 0), .null, .null, .null, .null, .null, .null, .null, .null, .null, .null, .null]) pf_201_0 rfl rfl rfl rfl rfl ?_
  refine E_dup pf_201_3 rfl ?_
  refine E_s1u pf_201_4 (wd_at rfl) rfl (Ca_nw (h62) (And.intro rfl (trivial)) _) ?_
  refine E_astore (lv' := [_, _, _, _, _, _, _, _]) pf_201_7 rfl rfl ?_
  refine P_new (x := ob 6 [.int (ii 0), .null, .int (ii 0), .int (ii 0), .int (ii 0), .int (ii 0), .int (ii 0), .int (ii 0), .null, .int (ii 0), .int (ii 0), .int (ii 0), .int (ii 0), .null, .null, .null, .null, .null, .int (ii 0), .null, .null, .null, .null, .null, .null]) pf_201_8 rfl rfl rfl rfl rfl ?_
  refine E_dup pf_201_11 rfl ?_
  refine E_s1u pf_201_12 (wd_at rfl) rfl (Ca_nw (n106) (And.intro rfl (trivial)) _) ?_
  refine E_astore (lv' := [_, _, _, _, _, _, _, _]) pf_201_15 rfl rfl ?_
  refine E_iconst pf_201_16 ?_
  refine P_nL (nn := 1) pf_201_17 rfl rfl rfl rfl ?_
  refine E_astore (lv' := [_, _, _, _, _, _, _, _]) pf_201_19 rfl rfl ?_
  refine E_iconst pf_201_20 ?_
  refine E_istore (lv' := [_, _, _, _, _, _, _, _]) pf_201_21 rfl rfl ?_
  exact d1 _ _ _
