/-! feed, end, fault -/
theorem It_X7_end : zm_X7_end.2.2.2.2.2 = zt_X7_end := by
  unfold zm_X7_end
  rfl
theorem It_X7_fault : zm_X7_fault.2.2.2.2.2 = zt_X7_fault := by
  unfold zm_X7_fault
  rfl
theorem It_X7_feed : zm_X7_feed.2.2.2.2.2 = zt_X7_feed := by
  unfold zm_X7_feed
  rfl
theorem It_X8_end : zm_X8_end.2.2.2.2.2 = zt_X8_end := by
  unfold zm_X8_end
  rfl
theorem It_X8_fault : zm_X8_fault.2.2.2.2.2 = zt_X8_fault := by
  unfold zm_X8_fault
  rfl
theorem It_X8_feed : zm_X8_feed.2.2.2.2.2 = zt_X8_feed := by
  unfold zm_X8_feed
  rfl
theorem I_X7_end_0 : zin zm_X7_end.2.2.2.2.2 0 = some (.iload_n 1, 1) := by rw [It_X7_end]; rfl
theorem I_X7_end_1 : zin zm_X7_end.2.2.2.2.2 1 = some (.ifCond .lt 14, 3) := by rw [It_X7_end]; rfl
theorem I_X7_end_4 : zin zm_X7_end.2.2.2.2.2 4 = some (.iload_n 1, 1) := by rw [It_X7_end]; rfl
theorem I_X7_end_5 : zin zm_X7_end.2.2.2.2.2 5 = some (.aload_n 0, 1) := by rw [It_X7_end]; rfl
theorem I_X7_end_6 : zin zm_X7_end.2.2.2.2.2 6 = some (.getfield 12, 3) := by rw [It_X7_end]; rfl
theorem I_X7_end_9 : zin zm_X7_end.2.2.2.2.2 9 = some (.getfield 59, 3) := by rw [It_X7_end]; rfl
theorem I_X7_end_12 : zin zm_X7_end.2.2.2.2.2 12 = some (.if_icmp .le 5, 3) := by rw [It_X7_end]; rfl
theorem I_X7_end_15 : zin zm_X7_end.2.2.2.2.2 15 = some (.iconst (-1), 1) := by rw [It_X7_end]; rfl
theorem I_X7_end_16 : zin zm_X7_end.2.2.2.2.2 16 = some (.ireturn, 1) := by rw [It_X7_end]; rfl
theorem I_X7_end_17 : zin zm_X7_end.2.2.2.2.2 17 = some (.aload_n 0, 1) := by rw [It_X7_end]; rfl
theorem I_X7_end_18 : zin zm_X7_end.2.2.2.2.2 18 = some (.getfield 12, 3) := by rw [It_X7_end]; rfl
theorem I_X7_end_21 : zin zm_X7_end.2.2.2.2.2 21 = some (.getfield 59, 3) := by rw [It_X7_end]; rfl
theorem I_X7_end_24 : zin zm_X7_end.2.2.2.2.2 24 = some (.istore_n 2, 1) := by rw [It_X7_end]; rfl
theorem I_X7_end_25 : zin zm_X7_end.2.2.2.2.2 25 = some (.aload_n 0, 1) := by rw [It_X7_end]; rfl
theorem I_X7_end_26 : zin zm_X7_end.2.2.2.2.2 26 = some (.getfield 12, 3) := by rw [It_X7_end]; rfl
theorem I_X7_end_29 : zin zm_X7_end.2.2.2.2.2 29 = some (.iload_n 1, 1) := by rw [It_X7_end]; rfl
theorem I_X7_end_30 : zin zm_X7_end.2.2.2.2.2 30 = some (.putfield 59, 3) := by rw [It_X7_end]; rfl
theorem I_X7_end_33 : zin zm_X7_end.2.2.2.2.2 33 = some (.iload_n 2, 1) := by rw [It_X7_end]; rfl
theorem I_X7_end_34 : zin zm_X7_end.2.2.2.2.2 34 = some (.ireturn, 1) := by rw [It_X7_end]; rfl
theorem I_X7_fault_0 : zin zm_X7_fault.2.2.2.2.2 0 = some (.aload_n 0, 1) := by rw [It_X7_fault]; rfl
theorem I_X7_fault_1 : zin zm_X7_fault.2.2.2.2.2 1 = some (.getfield 12, 3) := by rw [It_X7_fault]; rfl
theorem I_X7_fault_4 : zin zm_X7_fault.2.2.2.2.2 4 = some (.getfield 87, 3) := by rw [It_X7_fault]; rfl
theorem I_X7_fault_7 : zin zm_X7_fault.2.2.2.2.2 7 = some (.ireturn, 1) := by rw [It_X7_fault]; rfl
theorem I_X7_feed_0 : zin zm_X7_feed.2.2.2.2.2 0 = some (.iload_n 1, 1) := by rw [It_X7_feed]; rfl
theorem I_X7_feed_1 : zin zm_X7_feed.2.2.2.2.2 1 = some (.ifCond .lt 9, 3) := by rw [It_X7_feed]; rfl
theorem I_X7_feed_4 : zin zm_X7_feed.2.2.2.2.2 4 = some (.iload_n 1, 1) := by rw [It_X7_feed]; rfl
theorem I_X7_feed_5 : zin zm_X7_feed.2.2.2.2.2 5 = some (.bipush 127, 2) := by rw [It_X7_feed]; rfl
theorem I_X7_feed_7 : zin zm_X7_feed.2.2.2.2.2 7 = some (.if_icmp .le 5, 3) := by rw [It_X7_feed]; rfl
theorem I_X7_feed_10 : zin zm_X7_feed.2.2.2.2.2 10 = some (.iconst (-1), 1) := by rw [It_X7_feed]; rfl
theorem I_X7_feed_11 : zin zm_X7_feed.2.2.2.2.2 11 = some (.ireturn, 1) := by rw [It_X7_feed]; rfl
theorem I_X7_feed_12 : zin zm_X7_feed.2.2.2.2.2 12 = some (.aload_n 0, 1) := by rw [It_X7_feed]; rfl
theorem I_X7_feed_13 : zin zm_X7_feed.2.2.2.2.2 13 = some (.getfield 12, 3) := by rw [It_X7_feed]; rfl
theorem I_X7_feed_16 : zin zm_X7_feed.2.2.2.2.2 16 = some (.getfield 59, 3) := by rw [It_X7_feed]; rfl
theorem I_X7_feed_19 : zin zm_X7_feed.2.2.2.2.2 19 = some (.sipush 160, 3) := by rw [It_X7_feed]; rfl
theorem I_X7_feed_22 : zin zm_X7_feed.2.2.2.2.2 22 = some (.if_icmp .lt 6, 3) := by rw [It_X7_feed]; rfl
theorem I_X7_feed_25 : zin zm_X7_feed.2.2.2.2.2 25 = some (.bipush (-3), 2) := by rw [It_X7_feed]; rfl
theorem I_X7_feed_27 : zin zm_X7_feed.2.2.2.2.2 27 = some (.ireturn, 1) := by rw [It_X7_feed]; rfl
theorem I_X7_feed_28 : zin zm_X7_feed.2.2.2.2.2 28 = some (.aload_n 0, 1) := by rw [It_X7_feed]; rfl
theorem I_X7_feed_29 : zin zm_X7_feed.2.2.2.2.2 29 = some (.getfield 12, 3) := by rw [It_X7_feed]; rfl
theorem I_X7_feed_32 : zin zm_X7_feed.2.2.2.2.2 32 = some (.getfield 63, 3) := by rw [It_X7_feed]; rfl
theorem I_X7_feed_35 : zin zm_X7_feed.2.2.2.2.2 35 = some (.aload_n 0, 1) := by rw [It_X7_feed]; rfl
theorem I_X7_feed_36 : zin zm_X7_feed.2.2.2.2.2 36 = some (.getfield 12, 3) := by rw [It_X7_feed]; rfl
theorem I_X7_feed_39 : zin zm_X7_feed.2.2.2.2.2 39 = some (.getfield 59, 3) := by rw [It_X7_feed]; rfl
theorem I_X7_feed_42 : zin zm_X7_feed.2.2.2.2.2 42 = some (.iload_n 1, 1) := by rw [It_X7_feed]; rfl
theorem I_X7_feed_43 : zin zm_X7_feed.2.2.2.2.2 43 = some (.i2b, 1) := by rw [It_X7_feed]; rfl
theorem I_X7_feed_44 : zin zm_X7_feed.2.2.2.2.2 44 = some (.bastore, 1) := by rw [It_X7_feed]; rfl
theorem I_X7_feed_45 : zin zm_X7_feed.2.2.2.2.2 45 = some (.aload_n 0, 1) := by rw [It_X7_feed]; rfl
theorem I_X7_feed_46 : zin zm_X7_feed.2.2.2.2.2 46 = some (.getfield 12, 3) := by rw [It_X7_feed]; rfl
theorem I_X7_feed_49 : zin zm_X7_feed.2.2.2.2.2 49 = some (.dup, 1) := by rw [It_X7_feed]; rfl
theorem I_X7_feed_50 : zin zm_X7_feed.2.2.2.2.2 50 = some (.getfield 59, 3) := by rw [It_X7_feed]; rfl
theorem I_X7_feed_53 : zin zm_X7_feed.2.2.2.2.2 53 = some (.iconst 1, 1) := by rw [It_X7_feed]; rfl
theorem I_X7_feed_54 : zin zm_X7_feed.2.2.2.2.2 54 = some (.iadd, 1) := by rw [It_X7_feed]; rfl
theorem I_X7_feed_55 : zin zm_X7_feed.2.2.2.2.2 55 = some (.putfield 59, 3) := by rw [It_X7_feed]; rfl
theorem I_X7_feed_58 : zin zm_X7_feed.2.2.2.2.2 58 = some (.aload_n 0, 1) := by rw [It_X7_feed]; rfl
theorem I_X7_feed_59 : zin zm_X7_feed.2.2.2.2.2 59 = some (.getfield 12, 3) := by rw [It_X7_feed]; rfl
theorem I_X7_feed_62 : zin zm_X7_feed.2.2.2.2.2 62 = some (.getfield 59, 3) := by rw [It_X7_feed]; rfl
theorem I_X7_feed_65 : zin zm_X7_feed.2.2.2.2.2 65 = some (.ireturn, 1) := by rw [It_X7_feed]; rfl
theorem I_X8_end_0 : zin zm_X8_end.2.2.2.2.2 0 = some (.iload_n 1, 1) := by rw [It_X8_end]; rfl
theorem I_X8_end_1 : zin zm_X8_end.2.2.2.2.2 1 = some (.i2l, 1) := by rw [It_X8_end]; rfl
theorem I_X8_end_2 : zin zm_X8_end.2.2.2.2.2 2 = some (.lconst 0, 1) := by rw [It_X8_end]; rfl
theorem I_X8_end_3 : zin zm_X8_end.2.2.2.2.2 3 = some (.aload_n 0, 1) := by rw [It_X8_end]; rfl
theorem I_X8_end_4 : zin zm_X8_end.2.2.2.2.2 4 = some (.getfield 59, 3) := by rw [It_X8_end]; rfl
theorem I_X8_end_7 : zin zm_X8_end.2.2.2.2.2 7 = some (.i2l, 1) := by rw [It_X8_end]; rfl
theorem I_X8_end_8 : zin zm_X8_end.2.2.2.2.2 8 = some (.invokestatic 55, 3) := by rw [It_X8_end]; rfl
theorem I_X8_end_11 : zin zm_X8_end.2.2.2.2.2 11 = some (.ifCond .ne 5, 3) := by rw [It_X8_end]; rfl
theorem I_X8_end_14 : zin zm_X8_end.2.2.2.2.2 14 = some (.iconst (-1), 1) := by rw [It_X8_end]; rfl
theorem I_X8_end_15 : zin zm_X8_end.2.2.2.2.2 15 = some (.ireturn, 1) := by rw [It_X8_end]; rfl
theorem I_X8_end_16 : zin zm_X8_end.2.2.2.2.2 16 = some (.aload_n 0, 1) := by rw [It_X8_end]; rfl
theorem I_X8_end_17 : zin zm_X8_end.2.2.2.2.2 17 = some (.getfield 59, 3) := by rw [It_X8_end]; rfl
theorem I_X8_end_20 : zin zm_X8_end.2.2.2.2.2 20 = some (.istore_n 2, 1) := by rw [It_X8_end]; rfl
theorem I_X8_end_21 : zin zm_X8_end.2.2.2.2.2 21 = some (.aload_n 0, 1) := by rw [It_X8_end]; rfl
theorem I_X8_end_22 : zin zm_X8_end.2.2.2.2.2 22 = some (.iload_n 1, 1) := by rw [It_X8_end]; rfl
theorem I_X8_end_23 : zin zm_X8_end.2.2.2.2.2 23 = some (.putfield 59, 3) := by rw [It_X8_end]; rfl
theorem I_X8_end_26 : zin zm_X8_end.2.2.2.2.2 26 = some (.iload_n 2, 1) := by rw [It_X8_end]; rfl
theorem I_X8_end_27 : zin zm_X8_end.2.2.2.2.2 27 = some (.ireturn, 1) := by rw [It_X8_end]; rfl
theorem I_X8_fault_0 : zin zm_X8_fault.2.2.2.2.2 0 = some (.aload_n 0, 1) := by rw [It_X8_fault]; rfl
theorem I_X8_fault_1 : zin zm_X8_fault.2.2.2.2.2 1 = some (.getfield 128, 3) := by rw [It_X8_fault]; rfl
theorem I_X8_fault_4 : zin zm_X8_fault.2.2.2.2.2 4 = some (.ireturn, 1) := by rw [It_X8_fault]; rfl
theorem I_X8_feed_0 : zin zm_X8_feed.2.2.2.2.2 0 = some (.iload_n 1, 1) := by rw [It_X8_feed]; rfl
theorem I_X8_feed_1 : zin zm_X8_feed.2.2.2.2.2 1 = some (.i2l, 1) := by rw [It_X8_feed]; rfl
theorem I_X8_feed_2 : zin zm_X8_feed.2.2.2.2.2 2 = some (.lconst 0, 1) := by rw [It_X8_feed]; rfl
theorem I_X8_feed_3 : zin zm_X8_feed.2.2.2.2.2 3 = some (.ldc2_w 53, 3) := by rw [It_X8_feed]; rfl
theorem I_X8_feed_6 : zin zm_X8_feed.2.2.2.2.2 6 = some (.invokestatic 55, 3) := by rw [It_X8_feed]; rfl
theorem I_X8_feed_9 : zin zm_X8_feed.2.2.2.2.2 9 = some (.ifCond .ne 5, 3) := by rw [It_X8_feed]; rfl
theorem I_X8_feed_12 : zin zm_X8_feed.2.2.2.2.2 12 = some (.iconst (-1), 1) := by rw [It_X8_feed]; rfl
theorem I_X8_feed_13 : zin zm_X8_feed.2.2.2.2.2 13 = some (.ireturn, 1) := by rw [It_X8_feed]; rfl
theorem I_X8_feed_14 : zin zm_X8_feed.2.2.2.2.2 14 = some (.aload_n 0, 1) := by rw [It_X8_feed]; rfl
theorem I_X8_feed_15 : zin zm_X8_feed.2.2.2.2.2 15 = some (.getfield 59, 3) := by rw [It_X8_feed]; rfl
theorem I_X8_feed_18 : zin zm_X8_feed.2.2.2.2.2 18 = some (.sipush 160, 3) := by rw [It_X8_feed]; rfl
theorem I_X8_feed_21 : zin zm_X8_feed.2.2.2.2.2 21 = some (.if_icmp .ne 6, 3) := by rw [It_X8_feed]; rfl
theorem I_X8_feed_24 : zin zm_X8_feed.2.2.2.2.2 24 = some (.bipush (-3), 2) := by rw [It_X8_feed]; rfl
theorem I_X8_feed_26 : zin zm_X8_feed.2.2.2.2.2 26 = some (.ireturn, 1) := by rw [It_X8_feed]; rfl
theorem I_X8_feed_27 : zin zm_X8_feed.2.2.2.2.2 27 = some (.aload_n 0, 1) := by rw [It_X8_feed]; rfl
theorem I_X8_feed_28 : zin zm_X8_feed.2.2.2.2.2 28 = some (.getfield 19, 3) := by rw [It_X8_feed]; rfl
theorem I_X8_feed_31 : zin zm_X8_feed.2.2.2.2.2 31 = some (.aload_n 0, 1) := by rw [It_X8_feed]; rfl
theorem I_X8_feed_32 : zin zm_X8_feed.2.2.2.2.2 32 = some (.getfield 59, 3) := by rw [It_X8_feed]; rfl
theorem I_X8_feed_35 : zin zm_X8_feed.2.2.2.2.2 35 = some (.iload_n 1, 1) := by rw [It_X8_feed]; rfl
theorem I_X8_feed_36 : zin zm_X8_feed.2.2.2.2.2 36 = some (.iastore, 1) := by rw [It_X8_feed]; rfl
theorem I_X8_feed_37 : zin zm_X8_feed.2.2.2.2.2 37 = some (.aload_n 0, 1) := by rw [It_X8_feed]; rfl
theorem I_X8_feed_38 : zin zm_X8_feed.2.2.2.2.2 38 = some (.dup, 1) := by rw [It_X8_feed]; rfl
theorem I_X8_feed_39 : zin zm_X8_feed.2.2.2.2.2 39 = some (.getfield 59, 3) := by rw [It_X8_feed]; rfl
theorem I_X8_feed_42 : zin zm_X8_feed.2.2.2.2.2 42 = some (.iconst 1, 1) := by rw [It_X8_feed]; rfl
theorem I_X8_feed_43 : zin zm_X8_feed.2.2.2.2.2 43 = some (.iadd, 1) := by rw [It_X8_feed]; rfl
theorem I_X8_feed_44 : zin zm_X8_feed.2.2.2.2.2 44 = some (.putfield 59, 3) := by rw [It_X8_feed]; rfl
theorem I_X8_feed_47 : zin zm_X8_feed.2.2.2.2.2 47 = some (.aload_n 0, 1) := by rw [It_X8_feed]; rfl
theorem I_X8_feed_48 : zin zm_X8_feed.2.2.2.2.2 48 = some (.getfield 59, 3) := by rw [It_X8_feed]; rfl
theorem I_X8_feed_51 : zin zm_X8_feed.2.2.2.2.2 51 = some (.ireturn, 1) := by rw [It_X8_feed]; rfl
theorem G_7_63 : zlk zfls 7 63 = some (2, 0, 152) := rfl
theorem G_7_87 : zlk zfls 7 87 = some (2, 4, 160) := rfl
theorem J_8_53 : zlk zcJs 8 53 = some (127, 939) := rfl
theorem cl_X7_end : zm_X7_end.2.2.2.2.1 = 7 := by
  unfold zm_X7_end
  rfl
theorem cn_X7_end : zm_X7_end.2.2.2.2.1 ≠ 12 := by
  rw [cl_X7_end]
  decide
theorem cn2_X7_end : zm_X7_end.2.2.2.2.1 ≠ 2 := by
  rw [cl_X7_end]
  decide
theorem cl_X7_fault : zm_X7_fault.2.2.2.2.1 = 7 := by
  unfold zm_X7_fault
  rfl
theorem cn_X7_fault : zm_X7_fault.2.2.2.2.1 ≠ 12 := by
  rw [cl_X7_fault]
  decide
theorem cn2_X7_fault : zm_X7_fault.2.2.2.2.1 ≠ 2 := by
  rw [cl_X7_fault]
  decide
theorem cl_X7_feed : zm_X7_feed.2.2.2.2.1 = 7 := by
  unfold zm_X7_feed
  rfl
theorem cn_X7_feed : zm_X7_feed.2.2.2.2.1 ≠ 12 := by
  rw [cl_X7_feed]
  decide
theorem cn2_X7_feed : zm_X7_feed.2.2.2.2.1 ≠ 2 := by
  rw [cl_X7_feed]
  decide
theorem cl_X8_end : zm_X8_end.2.2.2.2.1 = 8 := by
  unfold zm_X8_end
  rfl
theorem cn_X8_end : zm_X8_end.2.2.2.2.1 ≠ 12 := by
  rw [cl_X8_end]
  decide
theorem cn2_X8_end : zm_X8_end.2.2.2.2.1 ≠ 2 := by
  rw [cl_X8_end]
  decide
theorem cl_X8_fault : zm_X8_fault.2.2.2.2.1 = 8 := by
  unfold zm_X8_fault
  rfl
theorem cn_X8_fault : zm_X8_fault.2.2.2.2.1 ≠ 12 := by
  rw [cl_X8_fault]
  decide
theorem cn2_X8_fault : zm_X8_fault.2.2.2.2.1 ≠ 2 := by
  rw [cl_X8_fault]
  decide
theorem cl_X8_feed : zm_X8_feed.2.2.2.2.1 = 8 := by
  unfold zm_X8_feed
  rfl
theorem cn_X8_feed : zm_X8_feed.2.2.2.2.1 ≠ 12 := by
  rw [cl_X8_feed]
  decide
theorem cn2_X8_feed : zm_X8_feed.2.2.2.2.1 ≠ 2 := by
  rw [cl_X8_feed]
  decide
theorem znb_1 : ∀ a, a < 128 → vp_nar .byte ((Int32.ofNat a).toInt8.toInt32) = Int32.ofNat a := by decide +kernel
theorem znb_2 {c : Int32} (h1 : ¬ c < 0) (h2 : ¬ 127 < c) : vp_nar (if (Sum.inl 1 : Nat ⊕ Nat) = Sum.inl 1 then .byte else .boolean) c.toInt8.toInt32 = c := by
  rw [if_pos rfl]
  rw [Int32.lt_iff_toInt_lt] at h1 h2
  have e0 : (0 : Int32).toInt = 0 := rfl
  have e1 : (127 : Int32).toInt = 127 := rfl
  have e : c = Int32.ofNat c.toInt.toNat := by
    apply Int32.toInt_inj.mp
    rw [zofn_t (by omega)]
    omega
  rw [e]
  exact znb_1 _ (by omega)
/-- a byte that may come behind a tape of n -/
def zFo (c : Int32) (n : Nat) : Prop := ¬ c < 0 ∧ ¬ 127 < c ∧ n < 160
/-- the tape, of both -/
def RT (m : zM) (n : Nat) : Prop := m 1 2 = Int32.ofNat n ∧ m 71 8 = Int32.ofNat n ∧ n ≤ 160 ∧ ∀ i, i < n → m 2 i = m 75 i
theorem t_X7_feed {d : Nat} {m : zM} {r : Option Value} {h' : zHp} {n : Nat} {c : Int32} (hn : m 1 2 = Int32.ofNat n) (hn2 : n ≤ 160) (H : zE none d zm_X7_feed 0 [.ref 0, .int c] [] m r h') : ∃ m1, (∃ v, r = some (.int v)) ∧ h' = zhp m1 ∧ ((¬ zFo c n ∧ m1 = m) ∨ (zFo c n ∧ m1 = zup (zup m 2 n c) 1 2 (Int32.ofNat (n + 1)))) := by
  replace H := i_iln (q := 1) H I_X7_feed_0 rfl rfl
  have W := i_if_lt (t := 10) (q := 4) H I_X7_feed_1 (by decide) rfl
  clear H
  rcases W with ⟨c_1, H⟩ | ⟨c_1, H⟩
  · skip
    replace H := i_icst (x := (-1)) (q := 11) H I_X7_feed_10 (by decide) rfl
    obtain ⟨hr, hh⟩ := i_ir H I_X7_feed_11
    exact ⟨_, ⟨_, hr⟩, hh, Or.inl ⟨fun w => w.1 c_1, rfl⟩⟩
  · skip
    replace H := i_iln (q := 5) H I_X7_feed_4 rfl rfl
    replace H := i_bip (x := 127) (q := 7) H I_X7_feed_5 (by decide) rfl
    have W := i_ic_le (t := 12) (q := 10) H I_X7_feed_7 (by decide) rfl
    clear H
    rcases W with ⟨c_7, H⟩ | ⟨c_7, H⟩
    · skip
      replace H := i_aln (q := 13) H I_X7_feed_12 rfl rfl
      replace H := i_gfr (q := 16) H I_X7_feed_13 G_7_12 cn_X7_feed LY_0 rfl rfl
      replace H := i_gfi (q := 19) H I_X7_feed_16 G_7_59 cn_X7_feed LY_1 rfl rfl
      replace H := i_sip (x := 160) (q := 22) H I_X7_feed_19 (by decide) rfl
      have W := i_ic_lt (t := 28) (q := 25) H I_X7_feed_22 (by decide) rfl
      clear H
      rcases W with ⟨c_22, H⟩ | ⟨c_22, H⟩
      · skip
        replace H := i_aln (q := 29) H I_X7_feed_28 rfl rfl
        replace H := i_gfr (q := 32) H I_X7_feed_29 G_7_12 cn_X7_feed LY_0 rfl rfl
        replace H := i_gfr (q := 35) H I_X7_feed_32 G_7_63 cn_X7_feed LY_1 rfl rfl
        replace H := i_aln (q := 36) H I_X7_feed_35 rfl rfl
        replace H := i_gfr (q := 39) H I_X7_feed_36 G_7_12 cn_X7_feed LY_0 rfl rfl
        replace H := i_gfi (q := 42) H I_X7_feed_39 G_7_59 cn_X7_feed LY_1 rfl rfl
        replace H := i_iln (q := 43) H I_X7_feed_42 rfl rfl
        replace H := i_i2b (q := 44) H I_X7_feed_43 rfl
        have W := i_bast (q := 45) H I_X7_feed_44 LY_2 rfl
        clear H
        obtain ⟨i_44, bi_44, ei_44, H⟩ := W
        replace H := i_aln (q := 46) H I_X7_feed_45 rfl rfl
        replace H := i_gfr (q := 49) H I_X7_feed_46 G_7_12 cn_X7_feed LY_0 rfl rfl
        replace H := i_dup (q := 50) H I_X7_feed_49 rfl rfl
        replace H := i_gfi (q := 53) H I_X7_feed_50 G_7_59 cn_X7_feed LY_1 rfl rfl
        replace H := i_icst (x := 1) (q := 54) H I_X7_feed_53 (by decide) rfl
        replace H := i_iadd (q := 55) H I_X7_feed_54 rfl
        replace H := i_pf (q := 58) H I_X7_feed_55 G_7_59 cn_X7_feed LY_1 rfl rfl
        replace H := i_aln (q := 59) H I_X7_feed_58 rfl rfl
        replace H := i_gfr (q := 62) H I_X7_feed_59 G_7_12 cn_X7_feed LY_0 rfl rfl
        replace H := i_gfi (q := 65) H I_X7_feed_62 G_7_59 cn_X7_feed LY_1 rfl rfl
        obtain ⟨hr, hh⟩ := i_ir H I_X7_feed_65
        rw [hn] at c_22
        have e : n = i_44 := zofn (hn.symm.trans ei_44) (by omega) (by omega)
        subst e
        rw [znb_2 c_1 c_7, zup_n (by omega), hn, zofn_1] at hh
        exact ⟨_, ⟨_, hr⟩, hh, Or.inr ⟨⟨c_1, c_7, (zofn_lt (j := 160) (by omega) (by decide)).mp c_22⟩, rfl⟩⟩
      · skip
        replace H := i_bip (x := (-3)) (q := 27) H I_X7_feed_25 (by decide) rfl
        obtain ⟨hr, hh⟩ := i_ir H I_X7_feed_27
        rw [hn] at c_22
        exact ⟨_, ⟨_, hr⟩, hh, Or.inl ⟨fun w => c_22 ((zofn_lt (j := 160) (by omega) (by decide)).mpr w.2.2), rfl⟩⟩
    · skip
      replace H := i_icst (x := (-1)) (q := 11) H I_X7_feed_10 (by decide) rfl
      obtain ⟨hr, hh⟩ := i_ir H I_X7_feed_11
      exact ⟨_, ⟨_, hr⟩, hh, Or.inl ⟨fun w => w.2.1 c_7, rfl⟩⟩
theorem zfo_i {c : Int32} {n : Nat} (h : zFo c n) : (0 : Int64).toInt ≤ c.toInt ∧ c.toInt ≤ (127 : Int64).toInt := by
  obtain ⟨h1, h2, h3⟩ := h
  rw [Int32.lt_iff_toInt_lt] at h1 h2
  exact ⟨Int.not_lt.mp h1, Int.not_lt.mp h2⟩
theorem zfo_o {c : Int32} {n : Nat} (h : (0 : Int64).toInt ≤ c.toInt ∧ c.toInt ≤ (127 : Int64).toInt) (hn : n < 160) : zFo c n := by
  refine ⟨?_, ?_, hn⟩
  · rw [Int32.lt_iff_toInt_lt]
    exact Int.not_lt.mpr h.1
  · rw [Int32.lt_iff_toInt_lt]
    exact Int.not_lt.mpr h.2
theorem t_X8_feed {d : Nat} {m : zM} {r : Option Value} {h' : zHp} {n : Nat} {c : Int32} (hn : m 71 8 = Int32.ofNat n) (hn2 : n ≤ 160) (H : zE none d zm_X8_feed 0 [.ref 71, .int c] [] m r h') : ∃ m1, (∃ v, r = some (.int v)) ∧ h' = zhp m1 ∧ ((¬ zFo c n ∧ m1 = m) ∨ (zFo c n ∧ m1 = zup (zup m 75 n c) 71 8 (Int32.ofNat (n + 1)))) := by
  replace H := i_iln (q := 1) H I_X8_feed_0 rfl rfl
  replace H := i_i2l (q := 2) H I_X8_feed_1 rfl
  replace H := i_lcst (x := 0) (q := 3) H I_X8_feed_2 (by decide) rfl
  replace H := i_ldc2 (x := 127) (q := 6) H I_X8_feed_3 J_8_53 (by decide) rfl
  replace H := i_in (q := 9) H I_X8_feed_6 K_8_55 rfl
  have W := i_if_ne (t := 14) (q := 12) H I_X8_feed_9 (by decide) rfl
  clear H
  rcases W with ⟨c_9, H⟩ | ⟨c_9, H⟩
  · skip
    replace H := i_aln (q := 15) H I_X8_feed_14 rfl rfl
    replace H := i_gfi (q := 18) H I_X8_feed_15 G_8_59 cn_X8_feed LY_71 rfl rfl
    replace H := i_sip (x := 160) (q := 21) H I_X8_feed_18 (by decide) rfl
    have W := i_ic_ne (t := 27) (q := 24) H I_X8_feed_21 (by decide) rfl
    clear H
    rcases W with ⟨c_21, H⟩ | ⟨c_21, H⟩
    · skip
      replace H := i_aln (q := 28) H I_X8_feed_27 rfl rfl
      replace H := i_gfr (q := 31) H I_X8_feed_28 G_8_19 cn_X8_feed LY_71 rfl rfl
      replace H := i_aln (q := 32) H I_X8_feed_31 rfl rfl
      replace H := i_gfi (q := 35) H I_X8_feed_32 G_8_59 cn_X8_feed LY_71 rfl rfl
      replace H := i_iln (q := 36) H I_X8_feed_35 rfl rfl
      have W := i_iast (q := 37) H I_X8_feed_36 LY_75 rfl
      clear H
      obtain ⟨i_36, bi_36, ei_36, H⟩ := W
      replace H := i_aln (q := 38) H I_X8_feed_37 rfl rfl
      replace H := i_dup (q := 39) H I_X8_feed_38 rfl rfl
      replace H := i_gfi (q := 42) H I_X8_feed_39 G_8_59 cn_X8_feed LY_71 rfl rfl
      replace H := i_icst (x := 1) (q := 43) H I_X8_feed_42 (by decide) rfl
      replace H := i_iadd (q := 44) H I_X8_feed_43 rfl
      replace H := i_pf (q := 47) H I_X8_feed_44 G_8_59 cn_X8_feed LY_71 rfl rfl
      replace H := i_aln (q := 48) H I_X8_feed_47 rfl rfl
      replace H := i_gfi (q := 51) H I_X8_feed_48 G_8_59 cn_X8_feed LY_71 rfl rfl
      obtain ⟨hr, hh⟩ := i_ir H I_X8_feed_51
      rw [hn] at c_21
      have hlt : n < 160 := by
        rcases Nat.lt_or_ge n 160 with w | w
        · exact w
        · exact absurd (show Int32.ofNat n = 160 by rw [show n = 160 by omega]; rfl) c_21
      have e : n = i_36 := zofn (hn.symm.trans ei_36) (by omega) (by omega)
      subst e
      rw [zup_n (by omega), hn, zofn_1] at hh
      rw [zin_32] at c_9
      have hb := zif1 c_9
      exact ⟨_, ⟨_, hr⟩, hh, Or.inr ⟨zfo_o hb hlt, rfl⟩⟩
    · skip
      replace H := i_bip (x := (-3)) (q := 26) H I_X8_feed_24 (by decide) rfl
      obtain ⟨hr, hh⟩ := i_ir H I_X8_feed_26
      rw [hn] at c_21
      have e : n = 160 := zofn (j := 160) c_21 (by omega) (by decide)
      exact ⟨_, ⟨_, hr⟩, hh, Or.inl ⟨fun w => by have := w.2.2; omega, rfl⟩⟩
  · skip
    replace H := i_icst (x := (-1)) (q := 13) H I_X8_feed_12 (by decide) rfl
    obtain ⟨hr, hh⟩ := i_ir H I_X8_feed_13
    rw [zin_32] at c_9
    refine ⟨_, ⟨_, hr⟩, hh, Or.inl ⟨fun w => ?_, rfl⟩⟩
    rw [if_pos (zfo_i w)] at c_9
    exact absurd c_9 (by decide)
def zEo (x : Int32) (n : Nat) : Prop := ¬ x < 0 ∧ ¬ Int32.ofNat n < x
theorem t_X7_end {d : Nat} {m : zM} {r : Option Value} {h' : zHp} {n : Nat} {x : Int32} (hn : m 1 2 = Int32.ofNat n) (hn2 : n ≤ 160) (H : zE none d zm_X7_end 0 [.ref 0, .int x, .null] [] m r h') : ∃ m1, (∃ v, r = some (.int v)) ∧ h' = zhp m1 ∧ ((¬ zEo x n ∧ m1 = m) ∨ (zEo x n ∧ m1 = zup m 1 2 x)) := by
  replace H := i_iln (q := 1) H I_X7_end_0 rfl rfl
  have W := i_if_lt (t := 15) (q := 4) H I_X7_end_1 (by decide) rfl
  clear H
  rcases W with ⟨c_1, H⟩ | ⟨c_1, H⟩
  · skip
    replace H := i_icst (x := (-1)) (q := 16) H I_X7_end_15 (by decide) rfl
    obtain ⟨hr, hh⟩ := i_ir H I_X7_end_16
    exact ⟨_, ⟨_, hr⟩, hh, Or.inl ⟨fun w => w.1 c_1, rfl⟩⟩
  · skip
    replace H := i_iln (q := 5) H I_X7_end_4 rfl rfl
    replace H := i_aln (q := 6) H I_X7_end_5 rfl rfl
    replace H := i_gfr (q := 9) H I_X7_end_6 G_7_12 cn_X7_end LY_0 rfl rfl
    replace H := i_gfi (q := 12) H I_X7_end_9 G_7_59 cn_X7_end LY_1 rfl rfl
    have W := i_ic_le (t := 17) (q := 15) H I_X7_end_12 (by decide) rfl
    clear H
    rcases W with ⟨c_12, H⟩ | ⟨c_12, H⟩
    · skip
      replace H := i_aln (q := 18) H I_X7_end_17 rfl rfl
      replace H := i_gfr (q := 21) H I_X7_end_18 G_7_12 cn_X7_end LY_0 rfl rfl
      replace H := i_gfi (q := 24) H I_X7_end_21 G_7_59 cn_X7_end LY_1 rfl rfl
      replace H := i_isn (q := 25) H I_X7_end_24 rfl rfl
      replace H := i_aln (q := 26) H I_X7_end_25 rfl rfl
      replace H := i_gfr (q := 29) H I_X7_end_26 G_7_12 cn_X7_end LY_0 rfl rfl
      replace H := i_iln (q := 30) H I_X7_end_29 rfl rfl
      replace H := i_pf (q := 33) H I_X7_end_30 G_7_59 cn_X7_end LY_1 rfl rfl
      replace H := i_iln (q := 34) H I_X7_end_33 rfl rfl
      obtain ⟨hr, hh⟩ := i_ir H I_X7_end_34
      rw [hn] at c_12
      exact ⟨_, ⟨_, hr⟩, hh, Or.inr ⟨⟨c_1, c_12⟩, rfl⟩⟩
    · skip
      replace H := i_icst (x := (-1)) (q := 16) H I_X7_end_15 (by decide) rfl
      obtain ⟨hr, hh⟩ := i_ir H I_X7_end_16
      rw [hn] at c_12
      exact ⟨_, ⟨_, hr⟩, hh, Or.inl ⟨fun w => w.2 c_12, rfl⟩⟩
theorem t_X8_end {d : Nat} {m : zM} {r : Option Value} {h' : zHp} {n : Nat} {x : Int32} (hn : m 71 8 = Int32.ofNat n) (hn2 : n ≤ 160) (H : zE none d zm_X8_end 0 [.ref 71, .int x, .null] [] m r h') : ∃ m1, (∃ v, r = some (.int v)) ∧ h' = zhp m1 ∧ ((¬ zEo x n ∧ m1 = m) ∨ (zEo x n ∧ m1 = zup m 71 8 x)) := by
  replace H := i_iln (q := 1) H I_X8_end_0 rfl rfl
  replace H := i_i2l (q := 2) H I_X8_end_1 rfl
  replace H := i_lcst (x := 0) (q := 3) H I_X8_end_2 (by decide) rfl
  replace H := i_aln (q := 4) H I_X8_end_3 rfl rfl
  replace H := i_gfi (q := 7) H I_X8_end_4 G_8_59 cn_X8_end LY_71 rfl rfl
  replace H := i_i2l (q := 8) H I_X8_end_7 rfl
  replace H := i_in (q := 11) H I_X8_end_8 K_8_55 rfl
  have W := i_if_ne (t := 16) (q := 14) H I_X8_end_11 (by decide) rfl
  clear H
  rcases W with ⟨c_11, H⟩ | ⟨c_11, H⟩
  · skip
    replace H := i_aln (q := 17) H I_X8_end_16 rfl rfl
    replace H := i_gfi (q := 20) H I_X8_end_17 G_8_59 cn_X8_end LY_71 rfl rfl
    replace H := i_isn (q := 21) H I_X8_end_20 rfl rfl
    replace H := i_aln (q := 22) H I_X8_end_21 rfl rfl
    replace H := i_iln (q := 23) H I_X8_end_22 rfl rfl
    replace H := i_pf (q := 26) H I_X8_end_23 G_8_59 cn_X8_end LY_71 rfl rfl
    replace H := i_iln (q := 27) H I_X8_end_26 rfl rfl
    obtain ⟨hr, hh⟩ := i_ir H I_X8_end_27
    rw [zin_32, hn, Int32.toInt_toInt64] at c_11
    have hb := zif1 c_11
    refine ⟨_, ⟨_, hr⟩, hh, Or.inr ⟨⟨?_, ?_⟩, rfl⟩⟩
    · rw [Int32.lt_iff_toInt_lt]
      exact Int.not_lt.mpr hb.1
    · rw [Int32.lt_iff_toInt_lt]
      exact Int.not_lt.mpr hb.2
  · skip
    replace H := i_icst (x := (-1)) (q := 15) H I_X8_end_14 (by decide) rfl
    obtain ⟨hr, hh⟩ := i_ir H I_X8_end_15
    rw [zin_32, hn, Int32.toInt_toInt64] at c_11
    have hb := zif0 c_11
    refine ⟨_, ⟨_, hr⟩, hh, Or.inl ⟨fun w => hb ?_, rfl⟩⟩
    obtain ⟨w1, w2⟩ := w
    rw [Int32.lt_iff_toInt_lt] at w1 w2
    exact ⟨Int.not_lt.mp w1, Int.not_lt.mp w2⟩
theorem zEo_n {x : Int32} {n : Nat} (h : zEo x n) (hn : n ≤ 160) : ∃ k, k ≤ n ∧ x = Int32.ofNat k := by
  obtain ⟨h1, h2⟩ := h
  rw [Int32.lt_iff_toInt_lt] at h1 h2
  rw [zofn_t (by omega)] at h2
  have e0 : (0 : Int32).toInt = 0 := rfl
  refine ⟨x.toInt.toNat, by omega, ?_⟩
  apply Int32.toInt_inj.mp
  rw [zofn_t (by omega)]
  omega
theorem t_X7_fault {d : Nat} {m : zM} {r : Option Value} {h' : zHp}   (H : zE none d zm_X7_fault 0 [.ref 0] [] m r h') : r = some (.int (m 1 4)) ∧ h' = zhp m := by
  replace H := i_aln (q := 1) H I_X7_fault_0 rfl rfl
  replace H := i_gfr (q := 4) H I_X7_fault_1 G_7_12 cn_X7_fault LY_0 rfl rfl
  replace H := i_gfi (q := 7) H I_X7_fault_4 G_7_87 cn_X7_fault LY_1 rfl rfl
  obtain ⟨hr, hh⟩ := i_ir H I_X7_fault_7
  exact ⟨hr, hh⟩
theorem t_X8_fault {d : Nat} {m : zM} {r : Option Value} {h' : zHp}   (H : zE none d zm_X8_fault 0 [.ref 71] [] m r h') : r = some (.int (m 71 9)) ∧ h' = zhp m := by
  replace H := i_aln (q := 1) H I_X8_fault_0 rfl rfl
  replace H := i_gfi (q := 4) H I_X8_fault_1 G_8_128 cn_X8_fault LY_71 rfl rfl
  obtain ⟨hr, hh⟩ := i_ir H I_X8_fault_4
  exact ⟨hr, hh⟩
