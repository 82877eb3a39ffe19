/-! The law's small methods, over any heaps. -/
section WRP
variable {p1 p2 p3 p4 z : Int} {o : Int → Int} {h0 h1 : pd_H} {fs : List Value}
theorem w178 (hc : Ca 63 [.ref 1, .int (ii p1)] h0 (.inl (some (.int (ii z))), h1)) (hr : pd_get h0 1 = ob 5 fs) (hz : -2147483648 ≤ z ∧ z ≤ 2147483647) (ho : pd_get h1 116 = lr 1 o) : Ca 178 [.ref 1, .int (ii p1), .ref 116] h0 (.inl (some (.int (ii 0))), pd_put h1 116 (lr 1 (zu o 0 z))) := by
  refine E_in (lv := [_, _, _, _]) rfl ?_
  refine E_aload pf_178_0 rfl ?_
  refine E_iconst pf_178_1 ?_
  refine E_aload pf_178_2 rfl ?_
  refine E_iload pf_178_3 rfl ?_
  refine E_v2v pf_178_4 hr rfl hc ?_
  refine E_i2l pf_178_7 hz ?_
  refine E_last pf_178_8 ho (by omega) ?_
  refine E_goto pf_178_9 ?_
  refine E_iconst pf_178_18 ?_
  exact E_iret pf_178_19 rfl
theorem w178x0 (hc : Ca 63 [.ref 1, .int (ii p1)] h0 (.inr 0, h1)) (hr : pd_get h0 1 = ob 5 fs) : Ca 178 [.ref 1, .int (ii p1), .ref 116] h0 (.inl (some (.int (ii 1))), h1) := by
  refine E_in (lv := [_, _, _, _]) rfl ?_
  refine E_aload pf_178_0 rfl ?_
  refine E_iconst pf_178_1 ?_
  refine E_aload pf_178_2 rfl ?_
  refine E_iload pf_178_3 rfl ?_
  exact E_v2x pf_178_4 hr rfl hc rfl
theorem w178x1 (hc : Ca 63 [.ref 1, .int (ii p1)] h0 (.inr 1, h1)) (hr : pd_get h0 1 = ob 5 fs) : Ca 178 [.ref 1, .int (ii p1), .ref 116] h0 (.inl (some (.int (ii 2))), h1) := by
  refine E_in (lv := [_, _, _, _]) rfl ?_
  refine E_aload pf_178_0 rfl ?_
  refine E_iconst pf_178_1 ?_
  refine E_aload pf_178_2 rfl ?_
  refine E_iload pf_178_3 rfl ?_
  exact E_v2x pf_178_4 hr rfl hc rfl
theorem w179 (hc : Ca 66 [.ref 1] h0 (.inl (some (.int (ii z))), h1)) (hr : pd_get h0 1 = ob 5 fs) (hz : -2147483648 ≤ z ∧ z ≤ 2147483647) (ho : pd_get h1 116 = lr 1 o) : Ca 179 [.ref 1, .ref 116] h0 (.inl (some (.int (ii 0))), pd_put h1 116 (lr 1 (zu o 0 z))) := by
  refine E_in (lv := [_, _, _]) rfl ?_
  refine E_aload pf_179_0 rfl ?_
  refine E_iconst pf_179_1 ?_
  refine E_aload pf_179_2 rfl ?_
  refine E_v1v pf_179_3 hr rfl hc ?_
  refine E_i2l pf_179_6 hz ?_
  refine E_last pf_179_7 ho (by omega) ?_
  refine E_goto pf_179_8 ?_
  refine E_iconst pf_179_14 ?_
  exact E_iret pf_179_15 rfl
theorem w179x1 (hc : Ca 66 [.ref 1] h0 (.inr 1, h1)) (hr : pd_get h0 1 = ob 5 fs) : Ca 179 [.ref 1, .ref 116] h0 (.inl (some (.int (ii 1))), h1) := by
  refine E_in (lv := [_, _, _]) rfl ?_
  refine E_aload pf_179_0 rfl ?_
  refine E_iconst pf_179_1 ?_
  refine E_aload pf_179_2 rfl ?_
  exact E_v1x pf_179_3 hr rfl hc rfl
theorem w180 (hc : Ca 67 [.ref 1, .int (ii p1)] h0 (.inl (some (.int (ii z))), h1)) (hr : pd_get h0 1 = ob 5 fs) (hz : -2147483648 ≤ z ∧ z ≤ 2147483647) (ho : pd_get h1 116 = lr 1 o) : Ca 180 [.ref 1, .int (ii p1), .ref 116] h0 (.inl (some (.int (ii 0))), pd_put h1 116 (lr 1 (zu o 0 z))) := by
  refine E_in (lv := [_, _, _, _]) rfl ?_
  refine E_aload pf_180_0 rfl ?_
  refine E_iconst pf_180_1 ?_
  refine E_aload pf_180_2 rfl ?_
  refine E_iload pf_180_3 rfl ?_
  refine E_v2v pf_180_4 hr rfl hc ?_
  refine E_i2l pf_180_7 hz ?_
  refine E_last pf_180_8 ho (by omega) ?_
  refine E_goto pf_180_9 ?_
  refine E_iconst pf_180_15 ?_
  exact E_iret pf_180_16 rfl
theorem w180x0 (hc : Ca 67 [.ref 1, .int (ii p1)] h0 (.inr 0, h1)) (hr : pd_get h0 1 = ob 5 fs) : Ca 180 [.ref 1, .int (ii p1), .ref 116] h0 (.inl (some (.int (ii 1))), h1) := by
  refine E_in (lv := [_, _, _, _]) rfl ?_
  refine E_aload pf_180_0 rfl ?_
  refine E_iconst pf_180_1 ?_
  refine E_aload pf_180_2 rfl ?_
  refine E_iload pf_180_3 rfl ?_
  exact E_v2x pf_180_4 hr rfl hc rfl
theorem w181 (hc : Ca 68 [.ref 1, .int (ii p1), .int (ii p2)] h0 (.inl (some (.int (ii z))), h1)) (hr : pd_get h0 1 = ob 5 fs) (hz : -2147483648 ≤ z ∧ z ≤ 2147483647) (ho : pd_get h1 116 = lr 1 o) : Ca 181 [.ref 1, .int (ii p1), .int (ii p2), .ref 116] h0 (.inl (some (.int (ii 0))), pd_put h1 116 (lr 1 (zu o 0 z))) := by
  refine E_in (lv := [_, _, _, _, _]) rfl ?_
  refine E_aload pf_181_0 rfl ?_
  refine E_iconst pf_181_1 ?_
  refine E_aload pf_181_2 rfl ?_
  refine E_iload pf_181_3 rfl ?_
  refine E_iload pf_181_4 rfl ?_
  refine E_v3v pf_181_5 hr rfl hc ?_
  refine E_i2l pf_181_8 hz ?_
  refine E_last pf_181_9 ho (by omega) ?_
  refine E_goto pf_181_10 ?_
  refine E_iconst pf_181_17 ?_
  exact E_iret pf_181_18 rfl
theorem w181x2 (hc : Ca 68 [.ref 1, .int (ii p1), .int (ii p2)] h0 (.inr 2, h1)) (hr : pd_get h0 1 = ob 5 fs) : Ca 181 [.ref 1, .int (ii p1), .int (ii p2), .ref 116] h0 (.inl (some (.int (ii 1))), h1) := by
  refine E_in (lv := [_, _, _, _, _]) rfl ?_
  refine E_aload pf_181_0 rfl ?_
  refine E_iconst pf_181_1 ?_
  refine E_aload pf_181_2 rfl ?_
  refine E_iload pf_181_3 rfl ?_
  refine E_iload pf_181_4 rfl ?_
  exact E_v3x pf_181_5 hr rfl hc rfl
theorem w182 (hc : Ca 69 [.ref 1, .int (ii p1), .int (ii p2)] h0 (.inl (some (.int (ii z))), h1)) (hr : pd_get h0 1 = ob 5 fs) (hz : -2147483648 ≤ z ∧ z ≤ 2147483647) (ho : pd_get h1 116 = lr 1 o) : Ca 182 [.ref 1, .int (ii p1), .int (ii p2), .ref 116] h0 (.inl (some (.int (ii 0))), pd_put h1 116 (lr 1 (zu o 0 z))) := by
  refine E_in (lv := [_, _, _, _, _]) rfl ?_
  refine E_aload pf_182_0 rfl ?_
  refine E_iconst pf_182_1 ?_
  refine E_aload pf_182_2 rfl ?_
  refine E_iload pf_182_3 rfl ?_
  refine E_iload pf_182_4 rfl ?_
  refine E_v3v pf_182_5 hr rfl hc ?_
  refine E_i2l pf_182_8 hz ?_
  refine E_last pf_182_9 ho (by omega) ?_
  refine E_goto pf_182_10 ?_
  refine E_iconst pf_182_17 ?_
  exact E_iret pf_182_18 rfl
theorem w182x2 (hc : Ca 69 [.ref 1, .int (ii p1), .int (ii p2)] h0 (.inr 2, h1)) (hr : pd_get h0 1 = ob 5 fs) : Ca 182 [.ref 1, .int (ii p1), .int (ii p2), .ref 116] h0 (.inl (some (.int (ii 1))), h1) := by
  refine E_in (lv := [_, _, _, _, _]) rfl ?_
  refine E_aload pf_182_0 rfl ?_
  refine E_iconst pf_182_1 ?_
  refine E_aload pf_182_2 rfl ?_
  refine E_iload pf_182_3 rfl ?_
  refine E_iload pf_182_4 rfl ?_
  exact E_v3x pf_182_5 hr rfl hc rfl
theorem w183 (hc : Ca 70 [.ref 1, .int (ii p1), .int (ii p2)] h0 (.inl (some (.int (ii z))), h1)) (hr : pd_get h0 1 = ob 5 fs) (hz : -2147483648 ≤ z ∧ z ≤ 2147483647) (ho : pd_get h1 116 = lr 1 o) : Ca 183 [.ref 1, .int (ii p1), .int (ii p2), .ref 116] h0 (.inl (some (.int (ii 0))), pd_put h1 116 (lr 1 (zu o 0 z))) := by
  refine E_in (lv := [_, _, _, _, _]) rfl ?_
  refine E_aload pf_183_0 rfl ?_
  refine E_iconst pf_183_1 ?_
  refine E_aload pf_183_2 rfl ?_
  refine E_iload pf_183_3 rfl ?_
  refine E_iload pf_183_4 rfl ?_
  refine E_v3v pf_183_5 hr rfl hc ?_
  refine E_i2l pf_183_8 hz ?_
  refine E_last pf_183_9 ho (by omega) ?_
  refine E_goto pf_183_10 ?_
  refine E_iconst pf_183_21 ?_
  exact E_iret pf_183_22 rfl
theorem w183x2 (hc : Ca 70 [.ref 1, .int (ii p1), .int (ii p2)] h0 (.inr 2, h1)) (hr : pd_get h0 1 = ob 5 fs) : Ca 183 [.ref 1, .int (ii p1), .int (ii p2), .ref 116] h0 (.inl (some (.int (ii 1))), h1) := by
  refine E_in (lv := [_, _, _, _, _]) rfl ?_
  refine E_aload pf_183_0 rfl ?_
  refine E_iconst pf_183_1 ?_
  refine E_aload pf_183_2 rfl ?_
  refine E_iload pf_183_3 rfl ?_
  refine E_iload pf_183_4 rfl ?_
  exact E_v3x pf_183_5 hr rfl hc rfl
theorem w183x0 (hc : Ca 70 [.ref 1, .int (ii p1), .int (ii p2)] h0 (.inr 0, h1)) (hr : pd_get h0 1 = ob 5 fs) : Ca 183 [.ref 1, .int (ii p1), .int (ii p2), .ref 116] h0 (.inl (some (.int (ii 2))), h1) := by
  refine E_in (lv := [_, _, _, _, _]) rfl ?_
  refine E_aload pf_183_0 rfl ?_
  refine E_iconst pf_183_1 ?_
  refine E_aload pf_183_2 rfl ?_
  refine E_iload pf_183_3 rfl ?_
  refine E_iload pf_183_4 rfl ?_
  exact E_v3x pf_183_5 hr rfl hc rfl
theorem w184 (hc : Ca 72 [.ref 1, .int (ii p1)] h0 (.inl (some (.int (ii z))), h1)) (hr : pd_get h0 1 = ob 5 fs) (hz : -2147483648 ≤ z ∧ z ≤ 2147483647) (ho : pd_get h1 116 = lr 1 o) : Ca 184 [.ref 1, .int (ii p1), .ref 116] h0 (.inl (some (.int (ii 0))), pd_put h1 116 (lr 1 (zu o 0 z))) := by
  refine E_in (lv := [_, _, _, _]) rfl ?_
  refine E_aload pf_184_0 rfl ?_
  refine E_iconst pf_184_1 ?_
  refine E_aload pf_184_2 rfl ?_
  refine E_iload pf_184_3 rfl ?_
  refine E_v2v pf_184_4 hr rfl hc ?_
  refine E_i2l pf_184_7 hz ?_
  refine E_last pf_184_8 ho (by omega) ?_
  refine E_goto pf_184_9 ?_
  refine E_iconst pf_184_18 ?_
  exact E_iret pf_184_19 rfl
theorem w184x0 (hc : Ca 72 [.ref 1, .int (ii p1)] h0 (.inr 0, h1)) (hr : pd_get h0 1 = ob 5 fs) : Ca 184 [.ref 1, .int (ii p1), .ref 116] h0 (.inl (some (.int (ii 1))), h1) := by
  refine E_in (lv := [_, _, _, _]) rfl ?_
  refine E_aload pf_184_0 rfl ?_
  refine E_iconst pf_184_1 ?_
  refine E_aload pf_184_2 rfl ?_
  refine E_iload pf_184_3 rfl ?_
  exact E_v2x pf_184_4 hr rfl hc rfl
theorem w184x1 (hc : Ca 72 [.ref 1, .int (ii p1)] h0 (.inr 1, h1)) (hr : pd_get h0 1 = ob 5 fs) : Ca 184 [.ref 1, .int (ii p1), .ref 116] h0 (.inl (some (.int (ii 2))), h1) := by
  refine E_in (lv := [_, _, _, _]) rfl ?_
  refine E_aload pf_184_0 rfl ?_
  refine E_iconst pf_184_1 ?_
  refine E_aload pf_184_2 rfl ?_
  refine E_iload pf_184_3 rfl ?_
  exact E_v2x pf_184_4 hr rfl hc rfl
theorem w185 (hc : Ca 73 [.ref 1, .int (ii p1), .int (ii p2)] h0 (.inl (some (.int (ii z))), h1)) (hr : pd_get h0 1 = ob 5 fs) (hz : -2147483648 ≤ z ∧ z ≤ 2147483647) (ho : pd_get h1 116 = lr 1 o) : Ca 185 [.ref 1, .int (ii p1), .int (ii p2), .ref 116] h0 (.inl (some (.int (ii 0))), pd_put h1 116 (lr 1 (zu o 0 z))) := by
  refine E_in (lv := [_, _, _, _, _]) rfl ?_
  refine E_aload pf_185_0 rfl ?_
  refine E_iconst pf_185_1 ?_
  refine E_aload pf_185_2 rfl ?_
  refine E_iload pf_185_3 rfl ?_
  refine E_iload pf_185_4 rfl ?_
  refine E_v3v pf_185_5 hr rfl hc ?_
  refine E_i2l pf_185_8 hz ?_
  refine E_last pf_185_9 ho (by omega) ?_
  refine E_goto pf_185_10 ?_
  refine E_iconst pf_185_17 ?_
  exact E_iret pf_185_18 rfl
theorem w185x0 (hc : Ca 73 [.ref 1, .int (ii p1), .int (ii p2)] h0 (.inr 0, h1)) (hr : pd_get h0 1 = ob 5 fs) : Ca 185 [.ref 1, .int (ii p1), .int (ii p2), .ref 116] h0 (.inl (some (.int (ii 1))), h1) := by
  refine E_in (lv := [_, _, _, _, _]) rfl ?_
  refine E_aload pf_185_0 rfl ?_
  refine E_iconst pf_185_1 ?_
  refine E_aload pf_185_2 rfl ?_
  refine E_iload pf_185_3 rfl ?_
  refine E_iload pf_185_4 rfl ?_
  exact E_v3x pf_185_5 hr rfl hc rfl
theorem w186 (hc : Ca 74 [.ref 1, .int (ii p1), .int (ii p2), .int (ii p3)] h0 (.inl (some (.int (ii z))), h1)) (hr : pd_get h0 1 = ob 5 fs) (hz : -2147483648 ≤ z ∧ z ≤ 2147483647) (ho : pd_get h1 116 = lr 1 o) : Ca 186 [.ref 1, .int (ii p1), .int (ii p2), .int (ii p3), .ref 116] h0 (.inl (some (.int (ii 0))), pd_put h1 116 (lr 1 (zu o 0 z))) := by
  refine E_in (lv := [_, _, _, _, _, _]) rfl ?_
  refine E_aload pf_186_0 rfl ?_
  refine E_iconst pf_186_2 ?_
  refine E_aload pf_186_3 rfl ?_
  refine E_iload pf_186_4 rfl ?_
  refine E_iload pf_186_5 rfl ?_
  refine E_iload pf_186_6 rfl ?_
  refine E_v4v pf_186_7 hr rfl hc ?_
  refine E_i2l pf_186_10 hz ?_
  refine E_last pf_186_11 ho (by omega) ?_
  refine E_goto pf_186_12 ?_
  refine E_iconst pf_186_23 ?_
  exact E_iret pf_186_24 rfl
theorem w186x2 (hc : Ca 74 [.ref 1, .int (ii p1), .int (ii p2), .int (ii p3)] h0 (.inr 2, h1)) (hr : pd_get h0 1 = ob 5 fs) : Ca 186 [.ref 1, .int (ii p1), .int (ii p2), .int (ii p3), .ref 116] h0 (.inl (some (.int (ii 1))), h1) := by
  refine E_in (lv := [_, _, _, _, _, _]) rfl ?_
  refine E_aload pf_186_0 rfl ?_
  refine E_iconst pf_186_2 ?_
  refine E_aload pf_186_3 rfl ?_
  refine E_iload pf_186_4 rfl ?_
  refine E_iload pf_186_5 rfl ?_
  refine E_iload pf_186_6 rfl ?_
  exact E_v4x pf_186_7 hr rfl hc rfl
theorem w186x0 (hc : Ca 74 [.ref 1, .int (ii p1), .int (ii p2), .int (ii p3)] h0 (.inr 0, h1)) (hr : pd_get h0 1 = ob 5 fs) : Ca 186 [.ref 1, .int (ii p1), .int (ii p2), .int (ii p3), .ref 116] h0 (.inl (some (.int (ii 2))), h1) := by
  refine E_in (lv := [_, _, _, _, _, _]) rfl ?_
  refine E_aload pf_186_0 rfl ?_
  refine E_iconst pf_186_2 ?_
  refine E_aload pf_186_3 rfl ?_
  refine E_iload pf_186_4 rfl ?_
  refine E_iload pf_186_5 rfl ?_
  refine E_iload pf_186_6 rfl ?_
  exact E_v4x pf_186_7 hr rfl hc rfl
theorem w187 (hc : Ca 75 [.ref 1, .int (ii p1)] h0 (.inl (some (.int (ii z))), h1)) (hr : pd_get h0 1 = ob 5 fs) (hz : -2147483648 ≤ z ∧ z ≤ 2147483647) (ho : pd_get h1 116 = lr 1 o) : Ca 187 [.ref 1, .int (ii p1), .ref 116] h0 (.inl (some (.int (ii 0))), pd_put h1 116 (lr 1 (zu o 0 z))) := by
  refine E_in (lv := [_, _, _, _]) rfl ?_
  refine E_aload pf_187_0 rfl ?_
  refine E_iconst pf_187_1 ?_
  refine E_aload pf_187_2 rfl ?_
  refine E_iload pf_187_3 rfl ?_
  refine E_v2v pf_187_4 hr rfl hc ?_
  refine E_i2l pf_187_7 hz ?_
  refine E_last pf_187_8 ho (by omega) ?_
  refine E_goto pf_187_9 ?_
  refine E_iconst pf_187_15 ?_
  exact E_iret pf_187_16 rfl
theorem w187x2 (hc : Ca 75 [.ref 1, .int (ii p1)] h0 (.inr 2, h1)) (hr : pd_get h0 1 = ob 5 fs) : Ca 187 [.ref 1, .int (ii p1), .ref 116] h0 (.inl (some (.int (ii 1))), h1) := by
  refine E_in (lv := [_, _, _, _]) rfl ?_
  refine E_aload pf_187_0 rfl ?_
  refine E_iconst pf_187_1 ?_
  refine E_aload pf_187_2 rfl ?_
  refine E_iload pf_187_3 rfl ?_
  exact E_v2x pf_187_4 hr rfl hc rfl
theorem w188 (hc : Ca 76 [.ref 1, .int (ii p1), .int (ii p2), .int (ii p3)] h0 (.inl (some (.int (ii z))), h1)) (hr : pd_get h0 1 = ob 5 fs) (hz : -2147483648 ≤ z ∧ z ≤ 2147483647) (ho : pd_get h1 116 = lr 1 o) : Ca 188 [.ref 1, .int (ii p1), .int (ii p2), .int (ii p3), .ref 116] h0 (.inl (some (.int (ii 0))), pd_put h1 116 (lr 1 (zu o 0 z))) := by
  refine E_in (lv := [_, _, _, _, _, _]) rfl ?_
  refine E_aload pf_188_0 rfl ?_
  refine E_iconst pf_188_2 ?_
  refine E_aload pf_188_3 rfl ?_
  refine E_iload pf_188_4 rfl ?_
  refine E_iload pf_188_5 rfl ?_
  refine E_iload pf_188_6 rfl ?_
  refine E_v4v pf_188_7 hr rfl hc ?_
  refine E_i2l pf_188_10 hz ?_
  refine E_last pf_188_11 ho (by omega) ?_
  refine E_goto pf_188_12 ?_
  refine E_iconst pf_188_23 ?_
  exact E_iret pf_188_24 rfl
theorem w188x2 (hc : Ca 76 [.ref 1, .int (ii p1), .int (ii p2), .int (ii p3)] h0 (.inr 2, h1)) (hr : pd_get h0 1 = ob 5 fs) : Ca 188 [.ref 1, .int (ii p1), .int (ii p2), .int (ii p3), .ref 116] h0 (.inl (some (.int (ii 1))), h1) := by
  refine E_in (lv := [_, _, _, _, _, _]) rfl ?_
  refine E_aload pf_188_0 rfl ?_
  refine E_iconst pf_188_2 ?_
  refine E_aload pf_188_3 rfl ?_
  refine E_iload pf_188_4 rfl ?_
  refine E_iload pf_188_5 rfl ?_
  refine E_iload pf_188_6 rfl ?_
  exact E_v4x pf_188_7 hr rfl hc rfl
theorem w188x0 (hc : Ca 76 [.ref 1, .int (ii p1), .int (ii p2), .int (ii p3)] h0 (.inr 0, h1)) (hr : pd_get h0 1 = ob 5 fs) : Ca 188 [.ref 1, .int (ii p1), .int (ii p2), .int (ii p3), .ref 116] h0 (.inl (some (.int (ii 2))), h1) := by
  refine E_in (lv := [_, _, _, _, _, _]) rfl ?_
  refine E_aload pf_188_0 rfl ?_
  refine E_iconst pf_188_2 ?_
  refine E_aload pf_188_3 rfl ?_
  refine E_iload pf_188_4 rfl ?_
  refine E_iload pf_188_5 rfl ?_
  refine E_iload pf_188_6 rfl ?_
  exact E_v4x pf_188_7 hr rfl hc rfl
theorem w189 (hc : Ca 77 [.ref 1] h0 (.inl (some (.int (ii z))), h1)) (hr : pd_get h0 1 = ob 5 fs) (hz : -2147483648 ≤ z ∧ z ≤ 2147483647) (ho : pd_get h1 116 = lr 1 o) : Ca 189 [.ref 1, .ref 116] h0 (.inl (some (.int (ii 0))), pd_put h1 116 (lr 1 (zu o 0 z))) := by
  refine E_in (lv := [_, _, _]) rfl ?_
  refine E_aload pf_189_0 rfl ?_
  refine E_iconst pf_189_1 ?_
  refine E_aload pf_189_2 rfl ?_
  refine E_v1v pf_189_3 hr rfl hc ?_
  refine E_i2l pf_189_6 hz ?_
  refine E_last pf_189_7 ho (by omega) ?_
  refine E_goto pf_189_8 ?_
  refine E_iconst pf_189_14 ?_
  exact E_iret pf_189_15 rfl
theorem w189x1 (hc : Ca 77 [.ref 1] h0 (.inr 1, h1)) (hr : pd_get h0 1 = ob 5 fs) : Ca 189 [.ref 1, .ref 116] h0 (.inl (some (.int (ii 1))), h1) := by
  refine E_in (lv := [_, _, _]) rfl ?_
  refine E_aload pf_189_0 rfl ?_
  refine E_iconst pf_189_1 ?_
  refine E_aload pf_189_2 rfl ?_
  exact E_v1x pf_189_3 hr rfl hc rfl
theorem w190 (hc : Ca 78 [.ref 1, .int (ii p1)] h0 (.inl (some (.int (ii z))), h1)) (hr : pd_get h0 1 = ob 5 fs) (hz : -2147483648 ≤ z ∧ z ≤ 2147483647) (ho : pd_get h1 116 = lr 1 o) : Ca 190 [.ref 1, .int (ii p1), .ref 116] h0 (.inl (some (.int (ii 0))), pd_put h1 116 (lr 1 (zu o 0 z))) := by
  refine E_in (lv := [_, _, _, _]) rfl ?_
  refine E_aload pf_190_0 rfl ?_
  refine E_iconst pf_190_1 ?_
  refine E_aload pf_190_2 rfl ?_
  refine E_iload pf_190_3 rfl ?_
  refine E_v2v pf_190_4 hr rfl hc ?_
  refine E_i2l pf_190_7 hz ?_
  refine E_last pf_190_8 ho (by omega) ?_
  refine E_goto pf_190_9 ?_
  refine E_iconst pf_190_15 ?_
  exact E_iret pf_190_16 rfl
theorem w190x2 (hc : Ca 78 [.ref 1, .int (ii p1)] h0 (.inr 2, h1)) (hr : pd_get h0 1 = ob 5 fs) : Ca 190 [.ref 1, .int (ii p1), .ref 116] h0 (.inl (some (.int (ii 1))), h1) := by
  refine E_in (lv := [_, _, _, _]) rfl ?_
  refine E_aload pf_190_0 rfl ?_
  refine E_iconst pf_190_1 ?_
  refine E_aload pf_190_2 rfl ?_
  refine E_iload pf_190_3 rfl ?_
  exact E_v2x pf_190_4 hr rfl hc rfl
theorem w191 (hc : Ca 79 [.ref 1, .int (ii p1)] h0 (.inl (some (.int (ii z))), h1)) (hr : pd_get h0 1 = ob 5 fs) (hz : -2147483648 ≤ z ∧ z ≤ 2147483647) (ho : pd_get h1 116 = lr 1 o) : Ca 191 [.ref 1, .int (ii p1), .ref 116] h0 (.inl (some (.int (ii 0))), pd_put h1 116 (lr 1 (zu o 0 z))) := by
  refine E_in (lv := [_, _, _, _]) rfl ?_
  refine E_aload pf_191_0 rfl ?_
  refine E_iconst pf_191_1 ?_
  refine E_aload pf_191_2 rfl ?_
  refine E_iload pf_191_3 rfl ?_
  refine E_v2v pf_191_4 hr rfl hc ?_
  refine E_i2l pf_191_7 hz ?_
  refine E_last pf_191_8 ho (by omega) ?_
  refine E_goto pf_191_9 ?_
  refine E_iconst pf_191_15 ?_
  exact E_iret pf_191_16 rfl
theorem w191x2 (hc : Ca 79 [.ref 1, .int (ii p1)] h0 (.inr 2, h1)) (hr : pd_get h0 1 = ob 5 fs) : Ca 191 [.ref 1, .int (ii p1), .ref 116] h0 (.inl (some (.int (ii 1))), h1) := by
  refine E_in (lv := [_, _, _, _]) rfl ?_
  refine E_aload pf_191_0 rfl ?_
  refine E_iconst pf_191_1 ?_
  refine E_aload pf_191_2 rfl ?_
  refine E_iload pf_191_3 rfl ?_
  exact E_v2x pf_191_4 hr rfl hc rfl
theorem w192 (hc : Ca 80 [.ref 1, .int (ii p1), .int (ii p2)] h0 (.inl (some (.long (ll z))), h1)) (hr : pd_get h0 1 = ob 5 fs) (ho : pd_get h1 116 = lr 1 o) : Ca 192 [.ref 1, .int (ii p1), .int (ii p2), .ref 116] h0 (.inl (some (.int (ii 0))), pd_put h1 116 (lr 1 (zu o 0 z))) := by
  refine E_in (lv := [_, _, _, _, _]) rfl ?_
  refine E_aload pf_192_0 rfl ?_
  refine E_iconst pf_192_1 ?_
  refine E_aload pf_192_2 rfl ?_
  refine E_iload pf_192_3 rfl ?_
  refine E_iload pf_192_4 rfl ?_
  refine E_v3v pf_192_5 hr rfl hc ?_
  refine E_last pf_192_8 ho (by omega) ?_
  refine E_goto pf_192_9 ?_
  refine E_iconst pf_192_16 ?_
  exact E_iret pf_192_17 rfl
theorem w192x2 (hc : Ca 80 [.ref 1, .int (ii p1), .int (ii p2)] h0 (.inr 2, h1)) (hr : pd_get h0 1 = ob 5 fs) : Ca 192 [.ref 1, .int (ii p1), .int (ii p2), .ref 116] h0 (.inl (some (.int (ii 1))), h1) := by
  refine E_in (lv := [_, _, _, _, _]) rfl ?_
  refine E_aload pf_192_0 rfl ?_
  refine E_iconst pf_192_1 ?_
  refine E_aload pf_192_2 rfl ?_
  refine E_iload pf_192_3 rfl ?_
  refine E_iload pf_192_4 rfl ?_
  exact E_v3x pf_192_5 hr rfl hc rfl
theorem w193 (hc : Ca 86 [.ref 1, .int (ii p1), .int (ii p2), .int (ii p3), .int (ii p4)] h0 (.inl (some (.int (ii z))), h1)) (hr : pd_get h0 1 = ob 5 fs) (hz : -2147483648 ≤ z ∧ z ≤ 2147483647) (ho : pd_get h1 116 = lr 1 o) : Ca 193 [.ref 1, .int (ii p1), .int (ii p2), .int (ii p3), .int (ii p4), .ref 116] h0 (.inl (some (.int (ii 0))), pd_put h1 116 (lr 1 (zu o 0 z))) := by
  refine E_in (lv := [_, _, _, _, _, _, _]) rfl ?_
  refine E_aload pf_193_0 rfl ?_
  refine E_iconst pf_193_2 ?_
  refine E_aload pf_193_3 rfl ?_
  refine E_iload pf_193_4 rfl ?_
  refine E_iload pf_193_5 rfl ?_
  refine E_iload pf_193_6 rfl ?_
  refine E_iload pf_193_7 rfl ?_
  refine E_v5v pf_193_9 hr rfl hc ?_
  refine E_i2l pf_193_12 hz ?_
  refine E_last pf_193_13 ho (by omega) ?_
  refine E_goto pf_193_14 ?_
  refine E_iconst pf_193_21 ?_
  exact E_iret pf_193_22 rfl
theorem w193x0 (hc : Ca 86 [.ref 1, .int (ii p1), .int (ii p2), .int (ii p3), .int (ii p4)] h0 (.inr 0, h1)) (hr : pd_get h0 1 = ob 5 fs) : Ca 193 [.ref 1, .int (ii p1), .int (ii p2), .int (ii p3), .int (ii p4), .ref 116] h0 (.inl (some (.int (ii 1))), h1) := by
  refine E_in (lv := [_, _, _, _, _, _, _]) rfl ?_
  refine E_aload pf_193_0 rfl ?_
  refine E_iconst pf_193_2 ?_
  refine E_aload pf_193_3 rfl ?_
  refine E_iload pf_193_4 rfl ?_
  refine E_iload pf_193_5 rfl ?_
  refine E_iload pf_193_6 rfl ?_
  refine E_iload pf_193_7 rfl ?_
  exact E_v5x pf_193_9 hr rfl hc rfl
theorem w194 (hc : Ca 88 [.ref 1, .int (ii p1), .int (ii p2), .int (ii p3)] h0 (.inl (some (.long (ll z))), h1)) (hr : pd_get h0 1 = ob 5 fs) (ho : pd_get h1 116 = lr 1 o) : Ca 194 [.ref 1, .int (ii p1), .int (ii p2), .int (ii p3), .ref 116] h0 (.inl (some (.int (ii 0))), pd_put h1 116 (lr 1 (zu o 0 z))) := by
  refine E_in (lv := [_, _, _, _, _, _]) rfl ?_
  refine E_aload pf_194_0 rfl ?_
  refine E_iconst pf_194_2 ?_
  refine E_aload pf_194_3 rfl ?_
  refine E_iload pf_194_4 rfl ?_
  refine E_iload pf_194_5 rfl ?_
  refine E_iload pf_194_6 rfl ?_
  refine E_v4v pf_194_7 hr rfl hc ?_
  refine E_last pf_194_10 ho (by omega) ?_
  refine E_goto pf_194_11 ?_
  refine E_iconst pf_194_18 ?_
  exact E_iret pf_194_19 rfl
theorem w194x2 (hc : Ca 88 [.ref 1, .int (ii p1), .int (ii p2), .int (ii p3)] h0 (.inr 2, h1)) (hr : pd_get h0 1 = ob 5 fs) : Ca 194 [.ref 1, .int (ii p1), .int (ii p2), .int (ii p3), .ref 116] h0 (.inl (some (.int (ii 1))), h1) := by
  refine E_in (lv := [_, _, _, _, _, _]) rfl ?_
  refine E_aload pf_194_0 rfl ?_
  refine E_iconst pf_194_2 ?_
  refine E_aload pf_194_3 rfl ?_
  refine E_iload pf_194_4 rfl ?_
  refine E_iload pf_194_5 rfl ?_
  refine E_iload pf_194_6 rfl ?_
  exact E_v4x pf_194_7 hr rfl hc rfl
theorem w195 (hc : Ca 89 [.ref 1, .int (ii p1), .int (ii p2)] h0 (.inl (some (.long (ll z))), h1)) (hr : pd_get h0 1 = ob 5 fs) (ho : pd_get h1 116 = lr 1 o) : Ca 195 [.ref 1, .int (ii p1), .int (ii p2), .ref 116] h0 (.inl (some (.int (ii 0))), pd_put h1 116 (lr 1 (zu o 0 z))) := by
  refine E_in (lv := [_, _, _, _, _]) rfl ?_
  refine E_aload pf_195_0 rfl ?_
  refine E_iconst pf_195_1 ?_
  refine E_aload pf_195_2 rfl ?_
  refine E_iload pf_195_3 rfl ?_
  refine E_iload pf_195_4 rfl ?_
  refine E_v3v pf_195_5 hr rfl hc ?_
  refine E_last pf_195_8 ho (by omega) ?_
  refine E_goto pf_195_9 ?_
  refine E_iconst pf_195_16 ?_
  exact E_iret pf_195_17 rfl
theorem w195x0 (hc : Ca 89 [.ref 1, .int (ii p1), .int (ii p2)] h0 (.inr 0, h1)) (hr : pd_get h0 1 = ob 5 fs) : Ca 195 [.ref 1, .int (ii p1), .int (ii p2), .ref 116] h0 (.inl (some (.int (ii 1))), h1) := by
  refine E_in (lv := [_, _, _, _, _]) rfl ?_
  refine E_aload pf_195_0 rfl ?_
  refine E_iconst pf_195_1 ?_
  refine E_aload pf_195_2 rfl ?_
  refine E_iload pf_195_3 rfl ?_
  refine E_iload pf_195_4 rfl ?_
  exact E_v3x pf_195_5 hr rfl hc rfl
theorem w196 (hc : Ca 90 [.ref 1, .int (ii p1), .long (ll p2)] h0 (.inl (some (.int (ii z))), h1)) (hr : pd_get h0 1 = ob 5 fs) (hz : -2147483648 ≤ z ∧ z ≤ 2147483647) (ho : pd_get h1 116 = lr 1 o) : Ca 196 [.ref 1, .int (ii p1), .long (ll p2), .ref 116] h0 (.inl (some (.int (ii 0))), pd_put h1 116 (lr 1 (zu o 0 z))) := by
  refine E_in (lv := [_, _, _, _, _, _]) rfl ?_
  refine E_aload pf_196_0 rfl ?_
  refine E_iconst pf_196_2 ?_
  refine E_aload pf_196_3 rfl ?_
  refine E_iload pf_196_4 rfl ?_
  refine E_lload pf_196_5 rfl ?_
  refine E_v3v pf_196_6 hr rfl hc ?_
  refine E_i2l pf_196_9 hz ?_
  refine E_last pf_196_10 ho (by omega) ?_
  refine E_goto pf_196_11 ?_
  refine E_iconst pf_196_18 ?_
  exact E_iret pf_196_19 rfl
theorem w196x0 (hc : Ca 90 [.ref 1, .int (ii p1), .long (ll p2)] h0 (.inr 0, h1)) (hr : pd_get h0 1 = ob 5 fs) : Ca 196 [.ref 1, .int (ii p1), .long (ll p2), .ref 116] h0 (.inl (some (.int (ii 1))), h1) := by
  refine E_in (lv := [_, _, _, _, _, _]) rfl ?_
  refine E_aload pf_196_0 rfl ?_
  refine E_iconst pf_196_2 ?_
  refine E_aload pf_196_3 rfl ?_
  refine E_iload pf_196_4 rfl ?_
  refine E_lload pf_196_5 rfl ?_
  exact E_v3x pf_196_6 hr rfl hc rfl
theorem w197 (hc : Ca 91 [.ref 1, .int (ii p1), .long (ll p2)] h0 (.inl (some (.int (ii z))), h1)) (hr : pd_get h0 1 = ob 5 fs) (hz : -2147483648 ≤ z ∧ z ≤ 2147483647) (ho : pd_get h1 116 = lr 1 o) : Ca 197 [.ref 1, .int (ii p1), .long (ll p2), .ref 116] h0 (.inl (some (.int (ii 0))), pd_put h1 116 (lr 1 (zu o 0 z))) := by
  refine E_in (lv := [_, _, _, _, _, _]) rfl ?_
  refine E_aload pf_197_0 rfl ?_
  refine E_iconst pf_197_2 ?_
  refine E_aload pf_197_3 rfl ?_
  refine E_iload pf_197_4 rfl ?_
  refine E_lload pf_197_5 rfl ?_
  refine E_v3v pf_197_6 hr rfl hc ?_
  refine E_i2l pf_197_9 hz ?_
  refine E_last pf_197_10 ho (by omega) ?_
  refine E_goto pf_197_11 ?_
  refine E_iconst pf_197_18 ?_
  exact E_iret pf_197_19 rfl
theorem w197x0 (hc : Ca 91 [.ref 1, .int (ii p1), .long (ll p2)] h0 (.inr 0, h1)) (hr : pd_get h0 1 = ob 5 fs) : Ca 197 [.ref 1, .int (ii p1), .long (ll p2), .ref 116] h0 (.inl (some (.int (ii 1))), h1) := by
  refine E_in (lv := [_, _, _, _, _, _]) rfl ?_
  refine E_aload pf_197_0 rfl ?_
  refine E_iconst pf_197_2 ?_
  refine E_aload pf_197_3 rfl ?_
  refine E_iload pf_197_4 rfl ?_
  refine E_lload pf_197_5 rfl ?_
  exact E_v3x pf_197_6 hr rfl hc rfl
theorem w198 (hc : Ca 92 [.ref 1, .long (ll p1), .int (ii p2)] h0 (.inl (some (.long (ll z))), h1)) (hr : pd_get h0 1 = ob 5 fs) (ho : pd_get h1 116 = lr 1 o) : Ca 198 [.ref 1, .long (ll p1), .int (ii p2), .ref 116] h0 (.inl (some (.int (ii 0))), pd_put h1 116 (lr 1 (zu o 0 z))) := by
  refine E_in (lv := [_, _, _, _, _, _]) rfl ?_
  refine E_aload pf_198_0 rfl ?_
  refine E_iconst pf_198_2 ?_
  refine E_aload pf_198_3 rfl ?_
  refine E_lload pf_198_4 rfl ?_
  refine E_iload pf_198_5 rfl ?_
  refine E_v3v pf_198_6 hr rfl hc ?_
  refine E_last pf_198_9 ho (by omega) ?_
  refine E_goto pf_198_10 ?_
  refine E_iconst pf_198_17 ?_
  exact E_iret pf_198_18 rfl
theorem w198x0 (hc : Ca 92 [.ref 1, .long (ll p1), .int (ii p2)] h0 (.inr 0, h1)) (hr : pd_get h0 1 = ob 5 fs) : Ca 198 [.ref 1, .long (ll p1), .int (ii p2), .ref 116] h0 (.inl (some (.int (ii 1))), h1) := by
  refine E_in (lv := [_, _, _, _, _, _]) rfl ?_
  refine E_aload pf_198_0 rfl ?_
  refine E_iconst pf_198_2 ?_
  refine E_aload pf_198_3 rfl ?_
  refine E_lload pf_198_4 rfl ?_
  refine E_iload pf_198_5 rfl ?_
  exact E_v3x pf_198_6 hr rfl hc rfl
theorem w199 (hc : Ca 93 [.ref 1, .int (ii p1)] h0 (.inl (some (.int (ii z))), h1)) (hr : pd_get h0 1 = ob 5 fs) (hz : -2147483648 ≤ z ∧ z ≤ 2147483647) (ho : pd_get h1 116 = lr 1 o) : Ca 199 [.ref 1, .int (ii p1), .ref 116] h0 (.inl (some (.int (ii 0))), pd_put h1 116 (lr 1 (zu o 0 z))) := by
  refine E_in (lv := [_, _, _, _]) rfl ?_
  refine E_aload pf_199_0 rfl ?_
  refine E_iconst pf_199_1 ?_
  refine E_aload pf_199_2 rfl ?_
  refine E_iload pf_199_3 rfl ?_
  refine E_v2v pf_199_4 hr rfl hc ?_
  refine E_i2l pf_199_7 hz ?_
  refine E_last pf_199_8 ho (by omega) ?_
  refine E_goto pf_199_9 ?_
  refine E_iconst pf_199_15 ?_
  exact E_iret pf_199_16 rfl
theorem w199x2 (hc : Ca 93 [.ref 1, .int (ii p1)] h0 (.inr 2, h1)) (hr : pd_get h0 1 = ob 5 fs) : Ca 199 [.ref 1, .int (ii p1), .ref 116] h0 (.inl (some (.int (ii 1))), h1) := by
  refine E_in (lv := [_, _, _, _]) rfl ?_
  refine E_aload pf_199_0 rfl ?_
  refine E_iconst pf_199_1 ?_
  refine E_aload pf_199_2 rfl ?_
  refine E_iload pf_199_3 rfl ?_
  exact E_v2x pf_199_4 hr rfl hc rfl
theorem w200 (hc : Ca 94 [.ref 1, .int (ii p1)] h0 (.inl (some (.int (ii z))), h1)) (hr : pd_get h0 1 = ob 5 fs) (hz : -2147483648 ≤ z ∧ z ≤ 2147483647) (ho : pd_get h1 116 = lr 1 o) : Ca 200 [.ref 1, .int (ii p1), .ref 116] h0 (.inl (some (.int (ii 0))), pd_put h1 116 (lr 1 (zu o 0 z))) := by
  refine E_in (lv := [_, _, _, _]) rfl ?_
  refine E_aload pf_200_0 rfl ?_
  refine E_iconst pf_200_1 ?_
  refine E_aload pf_200_2 rfl ?_
  refine E_iload pf_200_3 rfl ?_
  refine E_v2v pf_200_4 hr rfl hc ?_
  refine E_i2l pf_200_7 hz ?_
  refine E_last pf_200_8 ho (by omega) ?_
  refine E_goto pf_200_9 ?_
  refine E_iconst pf_200_18 ?_
  exact E_iret pf_200_19 rfl
theorem w200x2 (hc : Ca 94 [.ref 1, .int (ii p1)] h0 (.inr 2, h1)) (hr : pd_get h0 1 = ob 5 fs) : Ca 200 [.ref 1, .int (ii p1), .ref 116] h0 (.inl (some (.int (ii 1))), h1) := by
  refine E_in (lv := [_, _, _, _]) rfl ?_
  refine E_aload pf_200_0 rfl ?_
  refine E_iconst pf_200_1 ?_
  refine E_aload pf_200_2 rfl ?_
  refine E_iload pf_200_3 rfl ?_
  exact E_v2x pf_200_4 hr rfl hc rfl
theorem w200x1 (hc : Ca 94 [.ref 1, .int (ii p1)] h0 (.inr 1, h1)) (hr : pd_get h0 1 = ob 5 fs) : Ca 200 [.ref 1, .int (ii p1), .ref 116] h0 (.inl (some (.int (ii 2))), h1) := by
  refine E_in (lv := [_, _, _, _]) rfl ?_
  refine E_aload pf_200_0 rfl ?_
  refine E_iconst pf_200_1 ?_
  refine E_aload pf_200_2 rfl ?_
  refine E_iload pf_200_3 rfl ?_
  exact E_v2x pf_200_4 hr rfl hc rfl
end WRP
