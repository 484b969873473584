/-! Own rows: the law's low. Walked by program (wip/p37/m_low.py). -/
section LLOW
variable {G : zG} {d : Nat} {w : zW}
theorem c_L_low {v n : Int} (hn : n ≠ 0) : zM G zm_L_low d [zI v, zI n] w (zRet (some (zI (zrem (zand v 2147483647) n))) w) := by
  refine zx_ent (by decide +kernel) rfl (Nat.le_of_ble_eq_true rfl) ?_
  refine zx_L (L1 := [some (zI v), some (zI n)]) rfl ?_
  refine zx_iload_n (i := 0) dL_low_0 rfl rfl ?_
  refine zx_ldc (v := 2147483647) dL_low_1 zk_L_8 (by decide +kernel) (z32_lit (by decide) (by decide)) ?_
  refine zx_iand (v := zand v 2147483647) dL_low_3 rfl ?_
  refine zx_iload_n (i := 1) dL_low_4 rfl rfl ?_
  refine zx_irem dL_low_5 hn rfl ?_
  refine zx_iret dL_low_6 rfl ?_
  exact zr_v rfl rfl
/-- what low tells lies under its bound -/
theorem zlow_r {v n : Int} (h1 : 0 < n) (h2 : n < 1000000) : 0 ≤ zrem (zand v 2147483647) n ∧ zrem (zand v 2147483647) n < n := by
  have h0 : 0 ≤ zand v 2147483647 := by
    unfold zand
    have e : (Int32.ofInt v &&& Int32.ofInt 2147483647).toBitVec.toNat ≤ 2147483647 := by
      rw [Int32.toBitVec_and, BitVec.toNat_and]
      exact Nat.and_le_right
    have e2 : (Int32.ofInt v &&& Int32.ofInt 2147483647).toInt = (Int32.ofInt v &&& Int32.ofInt 2147483647).toBitVec.toInt := rfl
    rw [e2, BitVec.toInt_eq_toNat_of_lt (by omega)]
    exact Int.natCast_nonneg _
  have hf : z32 (zand v 2147483647) := z_fit32 _
  obtain ⟨x, hx⟩ : ∃ x, x = zand v 2147483647 := ⟨_, rfl⟩
  rw [← hx] at h0 hf ⊢
  have hq : x.tdiv n = x / n := Int.tdiv_eq_ediv_of_nonneg h0
  have hd1 : 0 ≤ x / n := Int.ediv_nonneg h0 (by omega)
  have hd2 : x / n ≤ x := Int.ediv_le_self _ h0
  have hm : x - x / n * n = x % n := by
    have := Int.mul_ediv_add_emod x n
    rw [Int.mul_comm] at this
    omega
  have r1 := Int.emod_nonneg x (show n ≠ 0 by omega)
  have r2 := Int.emod_lt_of_pos x h1
  have e : zrem x n = x % n := by
    unfold zrem
    rw [Int32.toInt_sub, Int32.toInt_mul, Int32.toInt_div]
    rw [show (Int32.ofInt x).toInt = x from zw_id hf, show (Int32.ofInt n).toInt = n from zw_id ⟨by omega, by omega⟩, hq]
    have b1 : (x / n).bmod (2 ^ 32) = x / n := Int.bmod_eq_of_le (by have := hf.2; omega) (by have := hf.2; omega)
    have hle : 0 ≤ x / n * n := Int.mul_nonneg hd1 (by omega)
    have b2 : (x / n * n).bmod (2 ^ 32) = x / n * n := Int.bmod_eq_of_le (by omega) (by have := hf.2; omega)
    rw [b1, b2, hm]
    exact Int.bmod_eq_of_le (by omega) (by omega)
  rw [e]
  exact ⟨r1, r2⟩
end LLOW
