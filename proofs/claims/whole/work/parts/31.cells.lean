section CEL
variable {X : xL} {b : Nat} {h : xH} {Q : Option xV → xH → Prop}
set_option maxHeartbeats 1000000 in
theorem m_22 {n : Int} (hp : PL X b) (h0 : 0 ≤ n) (h1 : n < 20) : Cl X 22 [vr (b + 11), vi n] h Q ↔ Q (some (vi (if h.1 (b + 17) n.toNat = -1 then 0 else 1))) h := by
  rw [c_22]
  simp only [e_22_0, e_22_1, e_22_2, e_22_3, e_22_4, e_22_5, e_22_6, e_22_7, e_22_8, e_22_9, onI_s, onR_s, onL_s, gl_0, gl_s, gl_n, sk0i, sk0r, sk0n, sk1i, sk1r, sk1n, skS, List.set_cons_zero, List.set_cons_succ, ct1_i, ct1_r, wd_0, wd_i, wd_r, wd_l, tl_s, tl_n, hp.t0, hp.t1, hp.t2, hp.t3, hp.t4, hp.t5, hp.t6, hp.t7, hp.t8, hp.t9, hp.t10, hp.t11, hp.t12, hp.t13, hp.t14, hp.t15, hp.t16, hp.t17, hp.t18, hp.t19, hp.t20, hp.t21, hp.t22, hp.t23, hp.z2, hp.z3, hp.z4, hp.z5, hp.z7, hp.z8, hp.z9, hp.z10, hp.z12, hp.z13, hp.z14, hp.z15, hp.z16, hp.z17, hp.z18, hp.z20, hp.z21, hp.z22, hp.z23, hp.r0_2, hp.r0_3, hp.r0_4, hp.r0_5, hp.r1_1, hp.r1_2, hp.r1_3, hp.r1_4, hp.r6_1, hp.r6_2, hp.r6_3, hp.r6_4, hp.r11_1, hp.r11_2, hp.r11_3, hp.r11_4, hp.r11_5, hp.r11_6, hp.r11_7, hp.r19_1, hp.r19_2, hp.r19_3, hp.r19_4]
  sorry
end CEL
