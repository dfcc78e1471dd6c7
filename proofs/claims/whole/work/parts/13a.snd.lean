/-! decode rows, and every method is right -/
variable {p : Program} {l : Launch} {e : Env} {R : Room} {s : State} {m : MethodId} {args : Array Value} {below : List Frame} {meth : Method} {c : Code} {D : va_G} {cid : Nat → ClassId} {kv : Nat → Option Nat} {N0 : Nat} {xs : Nat → Int32} {Ls n0 z0 nF zE d : Nat} {ρ0 : List Nat} {Qq : zQq} {r0 : Option Value} {hF : zH}
theorem dX0_init_0 : decode cX0_init 0 = .ok (.aload_n 0, 1) := by decide +kernel
theorem dX0_init_1 : decode cX0_init 1 = .ok (.invokespecial 3, 3) := by decide +kernel
theorem dX0_init_4 : decode cX0_init 4 = .ok (.aload_n 0, 1) := by decide +kernel
theorem dX0_init_5 : decode cX0_init 5 = .ok (.bipush 20, 2) := by decide +kernel
theorem dX0_init_7 : decode cX0_init 7 = .ok (.newarray .int, 2) := by decide +kernel
theorem dX0_init_9 : decode cX0_init 9 = .ok (.putfield 11, 3) := by decide +kernel
theorem dX0_init_12 : decode cX0_init 12 = .ok (.return_, 1) := by decide +kernel
theorem sd1_0 (F : zFx p l R s m args meth c D cid kv N0 xs Ls RX0 cX0_init 1 n0 z0 nF zE d) (IH : zAllM l D cid kv N0 xs Ls d) (hQ : ∀ v h, Qq v h → v = r0 ∧ h = hF) (hn : nF = zN hF) (hz : zE = zZ hF) (hlocks : meth.locks = false) (hr : meth.sig.returnType = none) (hin : meth.name = "<init>") : zSoL p l e R s m args below meth c D cid kv N0 xs Ls 1 (MQ below (zQc D cid kv N0 xs Ls ρ0 r0 hF) args s (nF - n0) (zE - z0) (zA N0)) ρ0 n0 z0 nF zE Qq (zCall d) zt1_0 := zc_so (si_aload_n F dX0_init_0 rfl)
  (zc_so (si_oinit F tb_176 tb_23 tb_24 dX0_init_1)
  (zc_so (si_aload_n F dX0_init_4 rfl)
  (zc_so (si_bipush F dX0_init_5 rfl)
  (zc_so (so_naI (ty := .int) (atype := .int) F.1 F.2.1 (by decide) (by decide) rfl rfl (fun C h => by cases h) (by decide) rfl (F.1.2.2.2.2 _ tb_82) F.2.2.2.2.1 F.2.2.1 F.2.2.2.1 dX0_init_7)
  (zc_so (si_putRF (k := 0) F rfl inT0 (by decide) (by decide) rfl rfl rfl (fun o => by cases o <;> exact ⟨rfl, rfl⟩) rfl hin rfl tyX0_ok nmX0 tb_177 dX0_init_9)
  (zc_so (si_rV F hQ hn hz hlocks hr dX0_init_12)
  (zc_nil)))))))
theorem sd1 (F : zFx p l R s m args meth c D cid kv N0 xs Ls RX0 cX0_init 1 n0 z0 nF zE d) (IH : zAllM l D cid kv N0 xs Ls d) (hQ : ∀ v h, Qq v h → v = r0 ∧ h = hF) (hn : nF = zN hF) (hz : zE = zZ hF) (hlocks : meth.locks = false) (hr : meth.sig.returnType = none) (hin : meth.name = "<init>") (pc : Nat) : zSo p l e R s m args below meth c D cid kv N0 xs Ls 1 (MQ below (zQc D cid kv N0 xs Ls ρ0 r0 hF) args s (nF - n0) (zE - z0) (zA N0)) ρ0 n0 z0 nF zE Qq (zCall d) pc (zTab 1 pc) := zc_tab [zt1_0] (zc_cons (sd1_0 F IH hQ hn hz hlocks hr hin) zc_end)
theorem dX0_isUnder_0 : decode cX0_isUnder 0 = .ok (.iload_n 0, 1) := by decide +kernel
theorem dX0_isUnder_1 : decode cX0_isUnder 1 = .ok (.istore_n 2, 1) := by decide +kernel
theorem dX0_isUnder_2 : decode cX0_isUnder 2 = .ok (.iconst 0, 1) := by decide +kernel
theorem dX0_isUnder_3 : decode cX0_isUnder 3 = .ok (.istore_n 3, 1) := by decide +kernel
theorem dX0_isUnder_4 : decode cX0_isUnder 4 = .ok (.iload_n 3, 1) := by decide +kernel
theorem dX0_isUnder_5 : decode cX0_isUnder 5 = .ok (.bipush 7, 2) := by decide +kernel
theorem dX0_isUnder_7 : decode cX0_isUnder 7 = .ok (.if_icmp .ge 31, 3) := by decide +kernel
theorem dX0_isUnder_10 : decode cX0_isUnder 10 = .ok (.iload_n 2, 1) := by decide +kernel
theorem dX0_isUnder_11 : decode cX0_isUnder 11 = .ok (.bipush 6, 2) := by decide +kernel
theorem dX0_isUnder_13 : decode cX0_isUnder 13 = .ok (.invokestatic 15, 3) := by decide +kernel
theorem dX0_isUnder_16 : decode cX0_isUnder 16 = .ok (.ifCond .eq 22, 3) := by decide +kernel
theorem dX0_isUnder_19 : decode cX0_isUnder 19 = .ok (.iload_n 2, 1) := by decide +kernel
theorem dX0_isUnder_20 : decode cX0_isUnder 20 = .ok (.iload_n 1, 1) := by decide +kernel
theorem dX0_isUnder_21 : decode cX0_isUnder 21 = .ok (.if_icmp .ne 5, 3) := by decide +kernel
theorem dX0_isUnder_24 : decode cX0_isUnder 24 = .ok (.iconst 1, 1) := by decide +kernel
theorem dX0_isUnder_25 : decode cX0_isUnder 25 = .ok (.ireturn, 1) := by decide +kernel
theorem dX0_isUnder_26 : decode cX0_isUnder 26 = .ok (.getstatic 19, 3) := by decide +kernel
theorem dX0_isUnder_29 : decode cX0_isUnder 29 = .ok (.iload_n 2, 1) := by decide +kernel
theorem dX0_isUnder_30 : decode cX0_isUnder 30 = .ok (.iaload, 1) := by decide +kernel
theorem dX0_isUnder_31 : decode cX0_isUnder 31 = .ok (.istore_n 2, 1) := by decide +kernel
theorem dX0_isUnder_32 : decode cX0_isUnder 32 = .ok (.iinc 3 1, 3) := by decide +kernel
theorem dX0_isUnder_35 : decode cX0_isUnder 35 = .ok (.goto (-31), 3) := by decide +kernel
theorem dX0_isUnder_38 : decode cX0_isUnder 38 = .ok (.iconst 0, 1) := by decide +kernel
theorem dX0_isUnder_39 : decode cX0_isUnder 39 = .ok (.ireturn, 1) := by decide +kernel
theorem sd2_0 (F : zFx p l R s m args meth c D cid kv N0 xs Ls RX0 cX0_isUnder 4 n0 z0 nF zE d) (IH : zAllM l D cid kv N0 xs Ls d) (hQ : ∀ v h, Qq v h → v = r0 ∧ h = hF) (hn : nF = zN hF) (hz : zE = zZ hF) (hlocks : meth.locks = false) (hr : meth.sig.returnType = (some .boolean)) : zSoL p l e R s m args below meth c D cid kv N0 xs Ls 4 (MQ below (zQc D cid kv N0 xs Ls ρ0 r0 hF) args s (nF - n0) (zE - z0) (zA N0)) ρ0 n0 z0 nF zE Qq (zCall d) zt2_0 := zc_so (si_iload_n F dX0_isUnder_0 rfl)
  (zc_so (si_istore_n F dX0_isUnder_1 rfl)
  (zc_so (si_iconst F dX0_isUnder_2 rfl)
  (zc_so (si_istore_n F dX0_isUnder_3 rfl)
  (zc_so (si_iload_n F dX0_isUnder_4 rfl)
  (zc_so (si_bipush F dX0_isUnder_5 rfl)
  (zc_so (si_icge F dX0_isUnder_7 rfl)
  (zc_so (si_iload_n F dX0_isUnder_10 rfl)
  (zc_so (si_bipush F dX0_isUnder_11 rfl)
  (zc_so (si_cSN (host := "TurnBack") F (IH 744 mm744) mp744 (by decide) (by decide +kernel) mi744 mn744 mc744 dX0_isUnder_13)
  (zc_so (si_ifeq F dX0_isUnder_16 rfl)
  (zc_so (si_iload_n F dX0_isUnder_19 rfl)
  (zc_so (si_iload_n F dX0_isUnder_20 rfl)
  (zc_so (si_icne F dX0_isUnder_21 rfl)
  (zc_so (si_iconst F dX0_isUnder_24 rfl)
  (zc_so (si_rI F hQ hn hz hlocks hr (fun x h => by rcases h with rfl | rfl <;> rfl) dX0_isUnder_25)
  (zc_so (si_gs1 F dX0_isUnder_26 tb_640)
  (zc_so (si_iload_n F dX0_isUnder_29 rfl)
  (zc_so (so_iaI F.1.1 F.1.2.1 F.2.1 dX0_isUnder_30)
  (zc_so (si_istore_n F dX0_isUnder_31 rfl)
  (zc_so (si_iinc F dX0_isUnder_32 rfl)
  (zc_so (si_goto F dX0_isUnder_35 rfl)
  (zc_so (si_iconst F dX0_isUnder_38 rfl)
  (zc_so (si_rI F hQ hn hz hlocks hr (fun x h => by rcases h with rfl | rfl <;> rfl) dX0_isUnder_39)
  (zc_nil))))))))))))))))))))))))
theorem sd2 (F : zFx p l R s m args meth c D cid kv N0 xs Ls RX0 cX0_isUnder 4 n0 z0 nF zE d) (IH : zAllM l D cid kv N0 xs Ls d) (hQ : ∀ v h, Qq v h → v = r0 ∧ h = hF) (hn : nF = zN hF) (hz : zE = zZ hF) (hlocks : meth.locks = false) (hr : meth.sig.returnType = (some .boolean)) (pc : Nat) : zSo p l e R s m args below meth c D cid kv N0 xs Ls 4 (MQ below (zQc D cid kv N0 xs Ls ρ0 r0 hF) args s (nF - n0) (zE - z0) (zA N0)) ρ0 n0 z0 nF zE Qq (zCall d) pc (zTab 2 pc) := zc_tab [zt2_0] (zc_cons (sd2_0 F IH hQ hn hz hlocks hr) zc_end)
theorem dX0_forget_0 : decode cX0_forget 0 = .ok (.aload_n 0, 1) := by decide +kernel
theorem dX0_forget_1 : decode cX0_forget 1 = .ok (.iconst 0, 1) := by decide +kernel
theorem dX0_forget_2 : decode cX0_forget 2 = .ok (.putfield 22, 3) := by decide +kernel
theorem dX0_forget_5 : decode cX0_forget 5 = .ok (.return_, 1) := by decide +kernel
theorem sd3_0 (F : zFx p l R s m args meth c D cid kv N0 xs Ls RX0 cX0_forget 1 n0 z0 nF zE d) (IH : zAllM l D cid kv N0 xs Ls d) (hQ : ∀ v h, Qq v h → v = r0 ∧ h = hF) (hn : nF = zN hF) (hz : zE = zZ hF) (hlocks : meth.locks = false) (hr : meth.sig.returnType = none) : zSoL p l e R s m args below meth c D cid kv N0 xs Ls 1 (MQ below (zQc D cid kv N0 xs Ls ρ0 r0 hF) args s (nF - n0) (zE - z0) (zA N0)) ρ0 n0 z0 nF zE Qq (zCall d) zt3_0 := zc_so (si_aload_n F dX0_forget_0 rfl)
  (zc_so (si_iconst F dX0_forget_1 rfl)
  (zc_so (si_putI (k := 1) F rfl inT0 (by decide) (by decide) rfl rfl rfl rfl tyX0_ok nmX0 tb_179 dX0_forget_2)
  (zc_so (si_rV F hQ hn hz hlocks hr dX0_forget_5)
  (zc_nil))))
theorem sd3 (F : zFx p l R s m args meth c D cid kv N0 xs Ls RX0 cX0_forget 1 n0 z0 nF zE d) (IH : zAllM l D cid kv N0 xs Ls d) (hQ : ∀ v h, Qq v h → v = r0 ∧ h = hF) (hn : nF = zN hF) (hz : zE = zZ hF) (hlocks : meth.locks = false) (hr : meth.sig.returnType = none) (pc : Nat) : zSo p l e R s m args below meth c D cid kv N0 xs Ls 1 (MQ below (zQc D cid kv N0 xs Ls ρ0 r0 hF) args s (nF - n0) (zE - z0) (zA N0)) ρ0 n0 z0 nF zE Qq (zCall d) pc (zTab 3 pc) := zc_tab [zt3_0] (zc_cons (sd3_0 F IH hQ hn hz hlocks hr) zc_end)
theorem dX0_kept_0 : decode cX0_kept 0 = .ok (.aload_n 0, 1) := by decide +kernel
theorem dX0_kept_1 : decode cX0_kept 1 = .ok (.getfield 22, 3) := by decide +kernel
theorem dX0_kept_4 : decode cX0_kept 4 = .ok (.bipush 20, 2) := by decide +kernel
theorem dX0_kept_6 : decode cX0_kept 6 = .ok (.invokestatic 26, 3) := by decide +kernel
theorem dX0_kept_9 : decode cX0_kept 9 = .ok (.ireturn, 1) := by decide +kernel
theorem sd4_0 (F : zFx p l R s m args meth c D cid kv N0 xs Ls RX0 cX0_kept 1 n0 z0 nF zE d) (IH : zAllM l D cid kv N0 xs Ls d) (hQ : ∀ v h, Qq v h → v = r0 ∧ h = hF) (hn : nF = zN hF) (hz : zE = zZ hF) (hlocks : meth.locks = false) (hr : meth.sig.returnType = (some .int)) : zSoL p l e R s m args below meth c D cid kv N0 xs Ls 1 (MQ below (zQc D cid kv N0 xs Ls ρ0 r0 hF) args s (nF - n0) (zE - z0) (zA N0)) ρ0 n0 z0 nF zE Qq (zCall d) zt4_0 := zc_so (si_aload_n F dX0_kept_0 rfl)
  (zc_so (si_getI (k := 1) F rfl inT0 (by decide) (by decide) rfl rfl tb_179 dX0_kept_1)
  (zc_so (si_bipush F dX0_kept_4 rfl)
  (zc_so (si_min F tb_650 tb_298 tb_5 tb_299 dX0_kept_6)
  (zc_so (si_rI F hQ hn hz hlocks hr (fun _ _ => rfl) dX0_kept_9)
  (zc_nil)))))
theorem sd4 (F : zFx p l R s m args meth c D cid kv N0 xs Ls RX0 cX0_kept 1 n0 z0 nF zE d) (IH : zAllM l D cid kv N0 xs Ls d) (hQ : ∀ v h, Qq v h → v = r0 ∧ h = hF) (hn : nF = zN hF) (hz : zE = zZ hF) (hlocks : meth.locks = false) (hr : meth.sig.returnType = (some .int)) (pc : Nat) : zSo p l e R s m args below meth c D cid kv N0 xs Ls 1 (MQ below (zQc D cid kv N0 xs Ls ρ0 r0 hF) args s (nF - n0) (zE - z0) (zA N0)) ρ0 n0 z0 nF zE Qq (zCall d) pc (zTab 4 pc) := zc_tab [zt4_0] (zc_cons (sd4_0 F IH hQ hn hz hlocks hr) zc_end)
theorem dX0_begin_0 : decode cX0_begin 0 = .ok (.aload_n 0, 1) := by decide +kernel
theorem dX0_begin_1 : decode cX0_begin 1 = .ok (.iload_n 1, 1) := by decide +kernel
theorem dX0_begin_2 : decode cX0_begin 2 = .ok (.putfield 32, 3) := by decide +kernel
theorem dX0_begin_5 : decode cX0_begin 5 = .ok (.aload_n 0, 1) := by decide +kernel
theorem dX0_begin_6 : decode cX0_begin 6 = .ok (.iload_n 2, 1) := by decide +kernel
theorem dX0_begin_7 : decode cX0_begin 7 = .ok (.putfield 35, 3) := by decide +kernel
theorem dX0_begin_10 : decode cX0_begin 10 = .ok (.aload_n 0, 1) := by decide +kernel
theorem dX0_begin_11 : decode cX0_begin 11 = .ok (.iload_n 3, 1) := by decide +kernel
theorem dX0_begin_12 : decode cX0_begin 12 = .ok (.putfield 38, 3) := by decide +kernel
theorem dX0_begin_15 : decode cX0_begin 15 = .ok (.aload_n 0, 1) := by decide +kernel
theorem dX0_begin_16 : decode cX0_begin 16 = .ok (.iload 4, 2) := by decide +kernel
theorem dX0_begin_18 : decode cX0_begin 18 = .ok (.iload 5, 2) := by decide +kernel
theorem dX0_begin_20 : decode cX0_begin 20 = .ok (.iconst 0, 1) := by decide +kernel
theorem dX0_begin_21 : decode cX0_begin 21 = .ok (.invokevirtual 41, 3) := by decide +kernel
theorem dX0_begin_24 : decode cX0_begin 24 = .ok (.ireturn, 1) := by decide +kernel
theorem sd5_0 (F : zFx p l R s m args meth c D cid kv N0 xs Ls RX0 cX0_begin 6 n0 z0 nF zE d) (IH : zAllM l D cid kv N0 xs Ls d) (hQ : ∀ v h, Qq v h → v = r0 ∧ h = hF) (hn : nF = zN hF) (hz : zE = zZ hF) (hlocks : meth.locks = false) (hr : meth.sig.returnType = (some .int)) : zSoL p l e R s m args below meth c D cid kv N0 xs Ls 6 (MQ below (zQc D cid kv N0 xs Ls ρ0 r0 hF) args s (nF - n0) (zE - z0) (zA N0)) ρ0 n0 z0 nF zE Qq (zCall d) zt5_0 := zc_so (si_aload_n F dX0_begin_0 rfl)
  (zc_so (si_iload_n F dX0_begin_1 rfl)
  (zc_so (si_putI (k := 2) F rfl inT0 (by decide) (by decide) rfl rfl rfl rfl tyX0_ok nmX0 tb_181 dX0_begin_2)
  (zc_so (si_aload_n F dX0_begin_5 rfl)
  (zc_so (si_iload_n F dX0_begin_6 rfl)
  (zc_so (si_putI (k := 3) F rfl inT0 (by decide) (by decide) rfl rfl rfl rfl tyX0_ok nmX0 tb_182 dX0_begin_7)
  (zc_so (si_aload_n F dX0_begin_10 rfl)
  (zc_so (si_iload_n F dX0_begin_11 rfl)
  (zc_so (si_putI (k := 4) F rfl inT0 (by decide) (by decide) rfl rfl rfl rfl tyX0_ok nmX0 tb_183 dX0_begin_12)
  (zc_so (si_aload_n F dX0_begin_15 rfl)
  (zc_so (si_iload F dX0_begin_16)
  (zc_so (si_iload F dX0_begin_18)
  (zc_so (si_iconst F dX0_begin_20 rfl)
  (zc_so (si_cV F (IH 6 mm6) mp6 (by decide) rfl rfl (by decide) tb_621 mi6 ms6 mn6 mc6 dX0_begin_21)
  (zc_so (si_rI F hQ hn hz hlocks hr (fun _ _ => rfl) dX0_begin_24)
  (zc_nil)))))))))))))))
theorem sd5 (F : zFx p l R s m args meth c D cid kv N0 xs Ls RX0 cX0_begin 6 n0 z0 nF zE d) (IH : zAllM l D cid kv N0 xs Ls d) (hQ : ∀ v h, Qq v h → v = r0 ∧ h = hF) (hn : nF = zN hF) (hz : zE = zZ hF) (hlocks : meth.locks = false) (hr : meth.sig.returnType = (some .int)) (pc : Nat) : zSo p l e R s m args below meth c D cid kv N0 xs Ls 6 (MQ below (zQc D cid kv N0 xs Ls ρ0 r0 hF) args s (nF - n0) (zE - z0) (zA N0)) ρ0 n0 z0 nF zE Qq (zCall d) pc (zTab 5 pc) := zc_tab [zt5_0] (zc_cons (sd5_0 F IH hQ hn hz hlocks hr) zc_end)
theorem dX0_own_0 : decode cX0_own 0 = .ok (.aload_n 0, 1) := by decide +kernel
theorem dX0_own_1 : decode cX0_own 1 = .ok (.aload_n 0, 1) := by decide +kernel
theorem dX0_own_2 : decode cX0_own 2 = .ok (.getfield 38, 3) := by decide +kernel
theorem dX0_own_5 : decode cX0_own 5 = .ok (.iload_n 1, 1) := by decide +kernel
theorem dX0_own_6 : decode cX0_own 6 = .ok (.iload_n 2, 1) := by decide +kernel
theorem dX0_own_7 : decode cX0_own 7 = .ok (.iload_n 3, 1) := by decide +kernel
theorem dX0_own_8 : decode cX0_own 8 = .ok (.invokevirtual 45, 3) := by decide +kernel
theorem dX0_own_11 : decode cX0_own 11 = .ok (.ireturn, 1) := by decide +kernel
theorem sd6_0 (F : zFx p l R s m args meth c D cid kv N0 xs Ls RX0 cX0_own 4 n0 z0 nF zE d) (IH : zAllM l D cid kv N0 xs Ls d) (hQ : ∀ v h, Qq v h → v = r0 ∧ h = hF) (hn : nF = zN hF) (hz : zE = zZ hF) (hlocks : meth.locks = false) (hr : meth.sig.returnType = (some .int)) : zSoL p l e R s m args below meth c D cid kv N0 xs Ls 4 (MQ below (zQc D cid kv N0 xs Ls ρ0 r0 hF) args s (nF - n0) (zE - z0) (zA N0)) ρ0 n0 z0 nF zE Qq (zCall d) zt6_0 := zc_so (si_aload_n F dX0_own_0 rfl)
  (zc_so (si_aload_n F dX0_own_1 rfl)
  (zc_so (si_getI (k := 4) F rfl inT0 (by decide) (by decide) rfl rfl tb_183 dX0_own_2)
  (zc_so (si_iload_n F dX0_own_5 rfl)
  (zc_so (si_iload_n F dX0_own_6 rfl)
  (zc_so (si_iload_n F dX0_own_7 rfl)
  (zc_so (si_cV F (IH 8 mm8) mp8 (by decide) rfl rfl (by decide) tb_625 mi8 ms8 mn8 mc8 dX0_own_8)
  (zc_so (si_rI F hQ hn hz hlocks hr (fun _ _ => rfl) dX0_own_11)
  (zc_nil))))))))
theorem sd6 (F : zFx p l R s m args meth c D cid kv N0 xs Ls RX0 cX0_own 4 n0 z0 nF zE d) (IH : zAllM l D cid kv N0 xs Ls d) (hQ : ∀ v h, Qq v h → v = r0 ∧ h = hF) (hn : nF = zN hF) (hz : zE = zZ hF) (hlocks : meth.locks = false) (hr : meth.sig.returnType = (some .int)) (pc : Nat) : zSo p l e R s m args below meth c D cid kv N0 xs Ls 4 (MQ below (zQc D cid kv N0 xs Ls ρ0 r0 hF) args s (nF - n0) (zE - z0) (zA N0)) ρ0 n0 z0 nF zE Qq (zCall d) pc (zTab 6 pc) := zc_tab [zt6_0] (zc_cons (sd6_0 F IH hQ hn hz hlocks hr) zc_end)
theorem dX0_above_0 : decode cX0_above 0 = .ok (.aload_n 0, 1) := by decide +kernel
theorem dX0_above_1 : decode cX0_above 1 = .ok (.getstatic 19, 3) := by decide +kernel
theorem dX0_above_4 : decode cX0_above 4 = .ok (.iload_n 1, 1) := by decide +kernel
theorem dX0_above_5 : decode cX0_above 5 = .ok (.iaload, 1) := by decide +kernel
theorem dX0_above_6 : decode cX0_above 6 = .ok (.iload_n 2, 1) := by decide +kernel
theorem dX0_above_7 : decode cX0_above 7 = .ok (.iload_n 3, 1) := by decide +kernel
theorem dX0_above_8 : decode cX0_above 8 = .ok (.iload 4, 2) := by decide +kernel
theorem dX0_above_10 : decode cX0_above 10 = .ok (.invokevirtual 45, 3) := by decide +kernel
theorem dX0_above_13 : decode cX0_above 13 = .ok (.ireturn, 1) := by decide +kernel
theorem sd7_0 (F : zFx p l R s m args meth c D cid kv N0 xs Ls RX0 cX0_above 5 n0 z0 nF zE d) (IH : zAllM l D cid kv N0 xs Ls d) (hQ : ∀ v h, Qq v h → v = r0 ∧ h = hF) (hn : nF = zN hF) (hz : zE = zZ hF) (hlocks : meth.locks = false) (hr : meth.sig.returnType = (some .int)) : zSoL p l e R s m args below meth c D cid kv N0 xs Ls 5 (MQ below (zQc D cid kv N0 xs Ls ρ0 r0 hF) args s (nF - n0) (zE - z0) (zA N0)) ρ0 n0 z0 nF zE Qq (zCall d) zt7_0 := zc_so (si_aload_n F dX0_above_0 rfl)
  (zc_so (si_gs1 F dX0_above_1 tb_640)
  (zc_so (si_iload_n F dX0_above_4 rfl)
  (zc_so (so_iaI F.1.1 F.1.2.1 F.2.1 dX0_above_5)
  (zc_so (si_iload_n F dX0_above_6 rfl)
  (zc_so (si_iload_n F dX0_above_7 rfl)
  (zc_so (si_iload F dX0_above_8)
  (zc_so (si_cV F (IH 8 mm8) mp8 (by decide) rfl rfl (by decide) tb_625 mi8 ms8 mn8 mc8 dX0_above_10)
  (zc_so (si_rI F hQ hn hz hlocks hr (fun _ _ => rfl) dX0_above_13)
  (zc_nil)))))))))
theorem sd7 (F : zFx p l R s m args meth c D cid kv N0 xs Ls RX0 cX0_above 5 n0 z0 nF zE d) (IH : zAllM l D cid kv N0 xs Ls d) (hQ : ∀ v h, Qq v h → v = r0 ∧ h = hF) (hn : nF = zN hF) (hz : zE = zZ hF) (hlocks : meth.locks = false) (hr : meth.sig.returnType = (some .int)) (pc : Nat) : zSo p l e R s m args below meth c D cid kv N0 xs Ls 5 (MQ below (zQc D cid kv N0 xs Ls ρ0 r0 hF) args s (nF - n0) (zE - z0) (zA N0)) ρ0 n0 z0 nF zE Qq (zCall d) pc (zTab 7 pc) := zc_tab [zt7_0] (zc_cons (sd7_0 F IH hQ hn hz hlocks hr) zc_end)
theorem dX0_runFrom_0 : decode cX0_runFrom 0 = .ok (.iload_n 1, 1) := by decide +kernel
theorem dX0_runFrom_1 : decode cX0_runFrom 1 = .ok (.istore 5, 2) := by decide +kernel
theorem dX0_runFrom_3 : decode cX0_runFrom 3 = .ok (.iconst 0, 1) := by decide +kernel
theorem dX0_runFrom_4 : decode cX0_runFrom 4 = .ok (.istore 6, 2) := by decide +kernel
theorem dX0_runFrom_6 : decode cX0_runFrom 6 = .ok (.iload 6, 2) := by decide +kernel
theorem dX0_runFrom_8 : decode cX0_runFrom 8 = .ok (.bipush 7, 2) := by decide +kernel
theorem dX0_runFrom_10 : decode cX0_runFrom 10 = .ok (.if_icmp .ge 67, 3) := by decide +kernel
theorem dX0_runFrom_13 : decode cX0_runFrom 13 = .ok (.iload 5, 2) := by decide +kernel
theorem dX0_runFrom_15 : decode cX0_runFrom 15 = .ok (.bipush 6, 2) := by decide +kernel
theorem dX0_runFrom_17 : decode cX0_runFrom 17 = .ok (.invokestatic 15, 3) := by decide +kernel
theorem dX0_runFrom_20 : decode cX0_runFrom 20 = .ok (.ifCond .eq 57, 3) := by decide +kernel
theorem dX0_runFrom_23 : decode cX0_runFrom 23 = .ok (.getstatic 49, 3) := by decide +kernel
theorem dX0_runFrom_26 : decode cX0_runFrom 26 = .ok (.iload 5, 2) := by decide +kernel
theorem dX0_runFrom_28 : decode cX0_runFrom 28 = .ok (.iconst 3, 1) := by decide +kernel
theorem dX0_runFrom_29 : decode cX0_runFrom 29 = .ok (.imul, 1) := by decide +kernel
theorem dX0_runFrom_30 : decode cX0_runFrom 30 = .ok (.iload_n 2, 1) := by decide +kernel
theorem dX0_runFrom_31 : decode cX0_runFrom 31 = .ok (.iadd, 1) := by decide +kernel
theorem dX0_runFrom_32 : decode cX0_runFrom 32 = .ok (.iaload, 1) := by decide +kernel
theorem dX0_runFrom_33 : decode cX0_runFrom 33 = .ok (.istore 7, 2) := by decide +kernel
theorem dX0_runFrom_35 : decode cX0_runFrom 35 = .ok (.iload 7, 2) := by decide +kernel
theorem dX0_runFrom_37 : decode cX0_runFrom 37 = .ok (.ifCond .eq 26, 3) := by decide +kernel
theorem dX0_runFrom_40 : decode cX0_runFrom 40 = .ok (.iload 4, 2) := by decide +kernel
theorem dX0_runFrom_42 : decode cX0_runFrom 42 = .ok (.bipush 20, 2) := by decide +kernel
theorem dX0_runFrom_44 : decode cX0_runFrom 44 = .ok (.if_icmp .ge 17, 3) := by decide +kernel
theorem dX0_runFrom_47 : decode cX0_runFrom 47 = .ok (.aload_n 0, 1) := by decide +kernel
theorem dX0_runFrom_48 : decode cX0_runFrom 48 = .ok (.iload 7, 2) := by decide +kernel
theorem dX0_runFrom_50 : decode cX0_runFrom 50 = .ok (.iload_n 3, 1) := by decide +kernel
theorem dX0_runFrom_51 : decode cX0_runFrom 51 = .ok (.iload 4, 2) := by decide +kernel
theorem dX0_runFrom_53 : decode cX0_runFrom 53 = .ok (.iconst 1, 1) := by decide +kernel
theorem dX0_runFrom_54 : decode cX0_runFrom 54 = .ok (.iadd, 1) := by decide +kernel
theorem dX0_runFrom_55 : decode cX0_runFrom 55 = .ok (.invokevirtual 52, 3) := by decide +kernel
theorem dX0_runFrom_58 : decode cX0_runFrom 58 = .ok (.goto 4, 3) := by decide +kernel
theorem dX0_runFrom_61 : decode cX0_runFrom 61 = .ok (.iconst 0, 1) := by decide +kernel
theorem dX0_runFrom_62 : decode cX0_runFrom 62 = .ok (.ireturn, 1) := by decide +kernel
theorem dX0_runFrom_63 : decode cX0_runFrom 63 = .ok (.getstatic 19, 3) := by decide +kernel
theorem dX0_runFrom_66 : decode cX0_runFrom 66 = .ok (.iload 5, 2) := by decide +kernel
theorem dX0_runFrom_68 : decode cX0_runFrom 68 = .ok (.iaload, 1) := by decide +kernel
theorem dX0_runFrom_69 : decode cX0_runFrom 69 = .ok (.istore 5, 2) := by decide +kernel
theorem dX0_runFrom_71 : decode cX0_runFrom 71 = .ok (.iinc 6 1, 3) := by decide +kernel
theorem dX0_runFrom_74 : decode cX0_runFrom 74 = .ok (.goto (-68), 3) := by decide +kernel
theorem dX0_runFrom_77 : decode cX0_runFrom 77 = .ok (.iconst 0, 1) := by decide +kernel
theorem dX0_runFrom_78 : decode cX0_runFrom 78 = .ok (.ireturn, 1) := by decide +kernel
theorem sd8_0 (F : zFx p l R s m args meth c D cid kv N0 xs Ls RX0 cX0_runFrom 8 n0 z0 nF zE d) (IH : zAllM l D cid kv N0 xs Ls d) (hQ : ∀ v h, Qq v h → v = r0 ∧ h = hF) (hn : nF = zN hF) (hz : zE = zZ hF) (hlocks : meth.locks = false) (hr : meth.sig.returnType = (some .int)) : zSoL p l e R s m args below meth c D cid kv N0 xs Ls 8 (MQ below (zQc D cid kv N0 xs Ls ρ0 r0 hF) args s (nF - n0) (zE - z0) (zA N0)) ρ0 n0 z0 nF zE Qq (zCall d) zt8_0 := zc_so (si_iload_n F dX0_runFrom_0 rfl)
  (zc_so (si_istore F dX0_runFrom_1)
  (zc_so (si_iconst F dX0_runFrom_3 rfl)
  (zc_so (si_istore F dX0_runFrom_4)
  (zc_so (si_iload F dX0_runFrom_6)
  (zc_so (si_bipush F dX0_runFrom_8 rfl)
  (zc_so (si_icge F dX0_runFrom_10 rfl)
  (zc_so (si_iload F dX0_runFrom_13)
  (zc_so (si_bipush F dX0_runFrom_15 rfl)
  (zc_so (si_cSN (host := "TurnBack") F (IH 744 mm744) mp744 (by decide) (by decide +kernel) mi744 mn744 mc744 dX0_runFrom_17)
  (zc_so (si_ifeq F dX0_runFrom_20 rfl)
  (zc_so (si_gs2 F dX0_runFrom_23 tb_630)
  (zc_so (si_iload F dX0_runFrom_26)
  (zc_so (si_iconst F dX0_runFrom_28 rfl)
  (zc_so (si_imul F dX0_runFrom_29)
  (zc_so (si_iload_n F dX0_runFrom_30 rfl)
  (zc_so (si_iadd F dX0_runFrom_31)
  (zc_so (so_iaI F.1.1 F.1.2.1 F.2.1 dX0_runFrom_32)
  (zc_so (si_istore F dX0_runFrom_33)
  (zc_so (si_iload F dX0_runFrom_35)
  (zc_so (si_ifeq F dX0_runFrom_37 rfl)
  (zc_so (si_iload F dX0_runFrom_40)
  (zc_so (si_bipush F dX0_runFrom_42 rfl)
  (zc_so (si_icge F dX0_runFrom_44 rfl)
  (zc_so (si_aload_n F dX0_runFrom_47 rfl)
  (zc_so (si_iload F dX0_runFrom_48)
  (zc_so (si_iload_n F dX0_runFrom_50 rfl)
  (zc_so (si_iload F dX0_runFrom_51)
  (zc_so (si_iconst F dX0_runFrom_53 rfl)
  (zc_so (si_iadd F dX0_runFrom_54)
  (zc_so (si_cV F (IH 9 mm9) mp9 (by decide) rfl rfl (by decide) tb_632 mi9 ms9 mn9 mc9 dX0_runFrom_55)
  (zc_so (si_goto F dX0_runFrom_58 rfl)
  (zc_so (si_iconst F dX0_runFrom_61 rfl)
  (zc_so (si_rI F hQ hn hz hlocks hr (fun _ _ => rfl) dX0_runFrom_62)
  (zc_so (si_gs1 F dX0_runFrom_63 tb_640)
  (zc_nil)))))))))))))))))))))))))))))))))))
theorem sd8_1 (F : zFx p l R s m args meth c D cid kv N0 xs Ls RX0 cX0_runFrom 8 n0 z0 nF zE d) (IH : zAllM l D cid kv N0 xs Ls d) (hQ : ∀ v h, Qq v h → v = r0 ∧ h = hF) (hn : nF = zN hF) (hz : zE = zZ hF) (hlocks : meth.locks = false) (hr : meth.sig.returnType = (some .int)) : zSoL p l e R s m args below meth c D cid kv N0 xs Ls 8 (MQ below (zQc D cid kv N0 xs Ls ρ0 r0 hF) args s (nF - n0) (zE - z0) (zA N0)) ρ0 n0 z0 nF zE Qq (zCall d) zt8_1 := zc_so (si_iload F dX0_runFrom_66)
  (zc_so (so_iaI F.1.1 F.1.2.1 F.2.1 dX0_runFrom_68)
  (zc_so (si_istore F dX0_runFrom_69)
  (zc_so (si_iinc F dX0_runFrom_71 rfl)
  (zc_so (si_goto F dX0_runFrom_74 rfl)
  (zc_so (si_iconst F dX0_runFrom_77 rfl)
  (zc_so (si_rI F hQ hn hz hlocks hr (fun _ _ => rfl) dX0_runFrom_78)
  (zc_nil)))))))
theorem sd8 (F : zFx p l R s m args meth c D cid kv N0 xs Ls RX0 cX0_runFrom 8 n0 z0 nF zE d) (IH : zAllM l D cid kv N0 xs Ls d) (hQ : ∀ v h, Qq v h → v = r0 ∧ h = hF) (hn : nF = zN hF) (hz : zE = zZ hF) (hlocks : meth.locks = false) (hr : meth.sig.returnType = (some .int)) (pc : Nat) : zSo p l e R s m args below meth c D cid kv N0 xs Ls 8 (MQ below (zQc D cid kv N0 xs Ls ρ0 r0 hF) args s (nF - n0) (zE - z0) (zA N0)) ρ0 n0 z0 nF zE Qq (zCall d) pc (zTab 8 pc) := zc_tab [zt8_0, zt8_1] (zc_cons (sd8_0 F IH hQ hn hz hlocks hr) (zc_cons (sd8_1 F IH hQ hn hz hlocks hr) zc_end))
theorem dX0_run_0 : decode cX0_run 0 = .ok (.aload_n 0, 1) := by decide +kernel
theorem dX0_run_1 : decode cX0_run 1 = .ok (.getfield 22, 3) := by decide +kernel
theorem dX0_run_4 : decode cX0_run 4 = .ok (.bipush 20, 2) := by decide +kernel
theorem dX0_run_6 : decode cX0_run 6 = .ok (.if_icmp .ge 13, 3) := by decide +kernel
theorem dX0_run_9 : decode cX0_run 9 = .ok (.aload_n 0, 1) := by decide +kernel
theorem dX0_run_10 : decode cX0_run 10 = .ok (.getfield 11, 3) := by decide +kernel
theorem dX0_run_13 : decode cX0_run 13 = .ok (.aload_n 0, 1) := by decide +kernel
theorem dX0_run_14 : decode cX0_run 14 = .ok (.getfield 22, 3) := by decide +kernel
theorem dX0_run_17 : decode cX0_run 17 = .ok (.iload_n 1, 1) := by decide +kernel
theorem dX0_run_18 : decode cX0_run 18 = .ok (.iastore, 1) := by decide +kernel
theorem dX0_run_19 : decode cX0_run 19 = .ok (.aload_n 0, 1) := by decide +kernel
theorem dX0_run_20 : decode cX0_run 20 = .ok (.dup, 1) := by decide +kernel
theorem dX0_run_21 : decode cX0_run 21 = .ok (.getfield 22, 3) := by decide +kernel
theorem dX0_run_24 : decode cX0_run 24 = .ok (.iconst 1, 1) := by decide +kernel
theorem dX0_run_25 : decode cX0_run 25 = .ok (.iadd, 1) := by decide +kernel
theorem dX0_run_26 : decode cX0_run 26 = .ok (.putfield 22, 3) := by decide +kernel
theorem dX0_run_29 : decode cX0_run 29 = .ok (.iload_n 1, 1) := by decide +kernel
theorem dX0_run_30 : decode cX0_run 30 = .ok (.lookupswitch 238 #[(10, 98), (11, 105), (12, 118), (20, 128), (30, 140), (40, 151), (50, 168), (51, 178), (60, 189), (70, 203), (71, 223)], 98) := by decide +kernel
theorem dX0_run_128 : decode cX0_run 128 = .ok (.iload_n 2, 1) := by decide +kernel
theorem dX0_run_129 : decode cX0_run 129 = .ok (.aload_n 0, 1) := by decide +kernel
theorem dX0_run_130 : decode cX0_run 130 = .ok (.getfield 32, 3) := by decide +kernel
theorem dX0_run_133 : decode cX0_run 133 = .ok (.iadd, 1) := by decide +kernel
theorem dX0_run_134 : decode cX0_run 134 = .ok (.ireturn, 1) := by decide +kernel
theorem dX0_run_135 : decode cX0_run 135 = .ok (.aload_n 0, 1) := by decide +kernel
theorem dX0_run_136 : decode cX0_run 136 = .ok (.iconst 0, 1) := by decide +kernel
theorem dX0_run_137 : decode cX0_run 137 = .ok (.iload_n 2, 1) := by decide +kernel
theorem dX0_run_138 : decode cX0_run 138 = .ok (.iload_n 3, 1) := by decide +kernel
theorem dX0_run_139 : decode cX0_run 139 = .ok (.invokevirtual 41, 3) := by decide +kernel
theorem dX0_run_142 : decode cX0_run 142 = .ok (.aload_n 0, 1) := by decide +kernel
theorem dX0_run_143 : decode cX0_run 143 = .ok (.getfield 35, 3) := by decide +kernel
theorem dX0_run_146 : decode cX0_run 146 = .ok (.isub, 1) := by decide +kernel
theorem dX0_run_147 : decode cX0_run 147 = .ok (.ireturn, 1) := by decide +kernel
theorem dX0_run_148 : decode cX0_run 148 = .ok (.aload_n 0, 1) := by decide +kernel
theorem dX0_run_149 : decode cX0_run 149 = .ok (.iconst 1, 1) := by decide +kernel
theorem dX0_run_150 : decode cX0_run 150 = .ok (.iload_n 2, 1) := by decide +kernel
theorem dX0_run_151 : decode cX0_run 151 = .ok (.iload_n 3, 1) := by decide +kernel
theorem dX0_run_152 : decode cX0_run 152 = .ok (.invokevirtual 41, 3) := by decide +kernel
theorem dX0_run_155 : decode cX0_run 155 = .ok (.iconst 2, 1) := by decide +kernel
theorem dX0_run_156 : decode cX0_run 156 = .ok (.imul, 1) := by decide +kernel
theorem dX0_run_157 : decode cX0_run 157 = .ok (.ireturn, 1) := by decide +kernel
theorem dX0_run_158 : decode cX0_run 158 = .ok (.aload_n 0, 1) := by decide +kernel
theorem dX0_run_159 : decode cX0_run 159 = .ok (.iconst 1, 1) := by decide +kernel
theorem dX0_run_160 : decode cX0_run 160 = .ok (.iconst 1, 1) := by decide +kernel
theorem dX0_run_161 : decode cX0_run 161 = .ok (.iload_n 2, 1) := by decide +kernel
theorem dX0_run_162 : decode cX0_run 162 = .ok (.iload_n 3, 1) := by decide +kernel
theorem dX0_run_163 : decode cX0_run 163 = .ok (.invokevirtual 55, 3) := by decide +kernel
theorem dX0_run_166 : decode cX0_run 166 = .ok (.bipush 6, 2) := by decide +kernel
theorem dX0_run_168 : decode cX0_run 168 = .ok (.ixor, 1) := by decide +kernel
theorem dX0_run_169 : decode cX0_run 169 = .ok (.ireturn, 1) := by decide +kernel
theorem dX0_run_170 : decode cX0_run 170 = .ok (.aload_n 0, 1) := by decide +kernel
theorem dX0_run_171 : decode cX0_run 171 = .ok (.iconst 2, 1) := by decide +kernel
theorem dX0_run_172 : decode cX0_run 172 = .ok (.iconst 0, 1) := by decide +kernel
theorem dX0_run_173 : decode cX0_run 173 = .ok (.iload_n 2, 1) := by decide +kernel
theorem dX0_run_174 : decode cX0_run 174 = .ok (.iconst 3, 1) := by decide +kernel
theorem dX0_run_175 : decode cX0_run 175 = .ok (.imul, 1) := by decide +kernel
theorem dX0_run_176 : decode cX0_run 176 = .ok (.iload_n 3, 1) := by decide +kernel
theorem dX0_run_177 : decode cX0_run 177 = .ok (.invokevirtual 55, 3) := by decide +kernel
theorem dX0_run_180 : decode cX0_run 180 = .ok (.ireturn, 1) := by decide +kernel
theorem dX0_run_181 : decode cX0_run 181 = .ok (.aload_n 0, 1) := by decide +kernel
theorem dX0_run_182 : decode cX0_run 182 = .ok (.iconst 3, 1) := by decide +kernel
theorem dX0_run_183 : decode cX0_run 183 = .ok (.iconst 2, 1) := by decide +kernel
theorem dX0_run_184 : decode cX0_run 184 = .ok (.iload_n 2, 1) := by decide +kernel
theorem dX0_run_185 : decode cX0_run 185 = .ok (.iload_n 3, 1) := by decide +kernel
theorem dX0_run_186 : decode cX0_run 186 = .ok (.invokevirtual 55, 3) := by decide +kernel
theorem dX0_run_189 : decode cX0_run 189 = .ok (.aload_n 0, 1) := by decide +kernel
theorem dX0_run_190 : decode cX0_run 190 = .ok (.iconst 1, 1) := by decide +kernel
theorem dX0_run_191 : decode cX0_run 191 = .ok (.iconst 1, 1) := by decide +kernel
theorem dX0_run_192 : decode cX0_run 192 = .ok (.iload_n 3, 1) := by decide +kernel
theorem dX0_run_193 : decode cX0_run 193 = .ok (.invokevirtual 41, 3) := by decide +kernel
theorem dX0_run_196 : decode cX0_run 196 = .ok (.iadd, 1) := by decide +kernel
theorem dX0_run_197 : decode cX0_run 197 = .ok (.ireturn, 1) := by decide +kernel
theorem dX0_run_198 : decode cX0_run 198 = .ok (.aload_n 0, 1) := by decide +kernel
theorem dX0_run_199 : decode cX0_run 199 = .ok (.iconst 4, 1) := by decide +kernel
theorem dX0_run_200 : decode cX0_run 200 = .ok (.iconst 0, 1) := by decide +kernel
theorem dX0_run_201 : decode cX0_run 201 = .ok (.iload_n 2, 1) := by decide +kernel
theorem dX0_run_202 : decode cX0_run 202 = .ok (.iload_n 3, 1) := by decide +kernel
theorem dX0_run_203 : decode cX0_run 203 = .ok (.invokevirtual 55, 3) := by decide +kernel
theorem dX0_run_206 : decode cX0_run 206 = .ok (.ineg, 1) := by decide +kernel
theorem dX0_run_207 : decode cX0_run 207 = .ok (.ireturn, 1) := by decide +kernel
theorem dX0_run_208 : decode cX0_run 208 = .ok (.aload_n 0, 1) := by decide +kernel
theorem dX0_run_209 : decode cX0_run 209 = .ok (.iconst 4, 1) := by decide +kernel
theorem dX0_run_210 : decode cX0_run 210 = .ok (.iconst 1, 1) := by decide +kernel
theorem dX0_run_211 : decode cX0_run 211 = .ok (.iload_n 2, 1) := by decide +kernel
theorem dX0_run_212 : decode cX0_run 212 = .ok (.iconst 1, 1) := by decide +kernel
theorem dX0_run_213 : decode cX0_run 213 = .ok (.iadd, 1) := by decide +kernel
theorem dX0_run_214 : decode cX0_run 214 = .ok (.iload_n 3, 1) := by decide +kernel
theorem dX0_run_215 : decode cX0_run 215 = .ok (.invokevirtual 55, 3) := by decide +kernel
theorem dX0_run_218 : decode cX0_run 218 = .ok (.ireturn, 1) := by decide +kernel
theorem dX0_run_219 : decode cX0_run 219 = .ok (.aload_n 0, 1) := by decide +kernel
theorem dX0_run_220 : decode cX0_run 220 = .ok (.iconst 5, 1) := by decide +kernel
theorem dX0_run_221 : decode cX0_run 221 = .ok (.iconst 2, 1) := by decide +kernel
theorem dX0_run_222 : decode cX0_run 222 = .ok (.iload_n 2, 1) := by decide +kernel
theorem dX0_run_223 : decode cX0_run 223 = .ok (.aload_n 0, 1) := by decide +kernel
theorem dX0_run_224 : decode cX0_run 224 = .ok (.getfield 32, 3) := by decide +kernel
theorem dX0_run_227 : decode cX0_run 227 = .ok (.isub, 1) := by decide +kernel
theorem dX0_run_228 : decode cX0_run 228 = .ok (.iload_n 3, 1) := by decide +kernel
theorem dX0_run_229 : decode cX0_run 229 = .ok (.invokevirtual 55, 3) := by decide +kernel
theorem dX0_run_232 : decode cX0_run 232 = .ok (.ireturn, 1) := by decide +kernel
theorem dX0_run_233 : decode cX0_run 233 = .ok (.aload_n 0, 1) := by decide +kernel
theorem dX0_run_234 : decode cX0_run 234 = .ok (.bipush 6, 2) := by decide +kernel
theorem dX0_run_236 : decode cX0_run 236 = .ok (.iconst 1, 1) := by decide +kernel
theorem dX0_run_237 : decode cX0_run 237 = .ok (.iload_n 2, 1) := by decide +kernel
theorem dX0_run_238 : decode cX0_run 238 = .ok (.iload_n 3, 1) := by decide +kernel
theorem dX0_run_239 : decode cX0_run 239 = .ok (.invokevirtual 55, 3) := by decide +kernel
theorem dX0_run_242 : decode cX0_run 242 = .ok (.aload_n 0, 1) := by decide +kernel
theorem dX0_run_243 : decode cX0_run 243 = .ok (.bipush 6, 2) := by decide +kernel
theorem dX0_run_245 : decode cX0_run 245 = .ok (.iconst 0, 1) := by decide +kernel
theorem dX0_run_246 : decode cX0_run 246 = .ok (.iconst 2, 1) := by decide +kernel
theorem dX0_run_247 : decode cX0_run 247 = .ok (.iload_n 3, 1) := by decide +kernel
theorem dX0_run_248 : decode cX0_run 248 = .ok (.invokevirtual 55, 3) := by decide +kernel
theorem dX0_run_251 : decode cX0_run 251 = .ok (.iadd, 1) := by decide +kernel
theorem dX0_run_252 : decode cX0_run 252 = .ok (.ireturn, 1) := by decide +kernel
theorem dX0_run_253 : decode cX0_run 253 = .ok (.aload_n 0, 1) := by decide +kernel
theorem dX0_run_254 : decode cX0_run 254 = .ok (.bipush 6, 2) := by decide +kernel
theorem dX0_run_256 : decode cX0_run 256 = .ok (.iconst 0, 1) := by decide +kernel
theorem dX0_run_257 : decode cX0_run 257 = .ok (.iload_n 2, 1) := by decide +kernel
theorem dX0_run_258 : decode cX0_run 258 = .ok (.iload_n 3, 1) := by decide +kernel
theorem dX0_run_259 : decode cX0_run 259 = .ok (.invokevirtual 55, 3) := by decide +kernel
theorem dX0_run_262 : decode cX0_run 262 = .ok (.aload_n 0, 1) := by decide +kernel
theorem dX0_run_263 : decode cX0_run 263 = .ok (.getfield 35, 3) := by decide +kernel
theorem dX0_run_266 : decode cX0_run 266 = .ok (.ixor, 1) := by decide +kernel
theorem dX0_run_267 : decode cX0_run 267 = .ok (.ireturn, 1) := by decide +kernel
theorem dX0_run_268 : decode cX0_run 268 = .ok (.iconst 0, 1) := by decide +kernel
theorem dX0_run_269 : decode cX0_run 269 = .ok (.ireturn, 1) := by decide +kernel
theorem sd9_0 (F : zFx p l R s m args meth c D cid kv N0 xs Ls RX0 cX0_run 4 n0 z0 nF zE d) (IH : zAllM l D cid kv N0 xs Ls d) (hQ : ∀ v h, Qq v h → v = r0 ∧ h = hF) (hn : nF = zN hF) (hz : zE = zZ hF) (hlocks : meth.locks = false) (hr : meth.sig.returnType = (some .int)) : zSoL p l e R s m args below meth c D cid kv N0 xs Ls 4 (MQ below (zQc D cid kv N0 xs Ls ρ0 r0 hF) args s (nF - n0) (zE - z0) (zA N0)) ρ0 n0 z0 nF zE Qq (zCall d) zt9_0 := zc_so (si_aload_n F dX0_run_0 rfl)
  (zc_so (si_getI (k := 1) F rfl inT0 (by decide) (by decide) rfl rfl tb_179 dX0_run_1)
  (zc_so (si_bipush F dX0_run_4 rfl)
  (zc_so (si_icge F dX0_run_6 rfl)
  (zc_so (si_aload_n F dX0_run_9 rfl)
  (zc_so (si_getR (k := 0) F rfl inT0 (by decide) (by decide) rfl rfl tb_177 dX0_run_10)
  (zc_so (si_aload_n F dX0_run_13 rfl)
  (zc_so (si_getI (k := 1) F rfl inT0 (by decide) (by decide) rfl rfl tb_179 dX0_run_14)
  (zc_so (si_iload_n F dX0_run_17 rfl)
  (zc_so (si_iastore F dX0_run_18)
  (zc_so (si_aload_n F dX0_run_19 rfl)
  (zc_so (si_dup F dX0_run_20)
  (zc_so (si_getI (k := 1) F rfl inT0 (by decide) (by decide) rfl rfl tb_179 dX0_run_21)
  (zc_so (si_iconst F dX0_run_24 rfl)
  (zc_so (si_iadd F dX0_run_25)
  (zc_so (si_putI (k := 1) F rfl inT0 (by decide) (by decide) rfl rfl rfl rfl tyX0_ok nmX0 tb_179 dX0_run_26)
  (zc_so (si_iload_n F dX0_run_29 rfl)
  (zc_so (so_swL F.1.1 F.1.2.1 dX0_run_30 (by decide +kernel) rfl ⟨rfl, rfl, ⟨rfl, rfl, ⟨rfl, rfl, ⟨rfl, rfl, ⟨rfl, rfl, ⟨rfl, rfl, ⟨rfl, rfl, ⟨rfl, rfl, ⟨rfl, rfl, ⟨rfl, rfl, ⟨rfl, rfl, trivial⟩⟩⟩⟩⟩⟩⟩⟩⟩⟩⟩)
  (zc_nil))))))))))))))))))
theorem sd9_1 (F : zFx p l R s m args meth c D cid kv N0 xs Ls RX0 cX0_run 4 n0 z0 nF zE d) (IH : zAllM l D cid kv N0 xs Ls d) (hQ : ∀ v h, Qq v h → v = r0 ∧ h = hF) (hn : nF = zN hF) (hz : zE = zZ hF) (hlocks : meth.locks = false) (hr : meth.sig.returnType = (some .int)) : zSoL p l e R s m args below meth c D cid kv N0 xs Ls 4 (MQ below (zQc D cid kv N0 xs Ls ρ0 r0 hF) args s (nF - n0) (zE - z0) (zA N0)) ρ0 n0 z0 nF zE Qq (zCall d) zt9_1 := zc_nil
theorem sd9_2 (F : zFx p l R s m args meth c D cid kv N0 xs Ls RX0 cX0_run 4 n0 z0 nF zE d) (IH : zAllM l D cid kv N0 xs Ls d) (hQ : ∀ v h, Qq v h → v = r0 ∧ h = hF) (hn : nF = zN hF) (hz : zE = zZ hF) (hlocks : meth.locks = false) (hr : meth.sig.returnType = (some .int)) : zSoL p l e R s m args below meth c D cid kv N0 xs Ls 4 (MQ below (zQc D cid kv N0 xs Ls ρ0 r0 hF) args s (nF - n0) (zE - z0) (zA N0)) ρ0 n0 z0 nF zE Qq (zCall d) zt9_2 := zc_so (si_iload_n F dX0_run_128 rfl)
  (zc_so (si_aload_n F dX0_run_129 rfl)
  (zc_so (si_getI (k := 2) F rfl inT0 (by decide) (by decide) rfl rfl tb_181 dX0_run_130)
  (zc_so (si_iadd F dX0_run_133)
  (zc_so (si_rI F hQ hn hz hlocks hr (fun _ _ => rfl) dX0_run_134)
  (zc_so (si_aload_n F dX0_run_135 rfl)
  (zc_so (si_iconst F dX0_run_136 rfl)
  (zc_so (si_iload_n F dX0_run_137 rfl)
  (zc_so (si_iload_n F dX0_run_138 rfl)
  (zc_so (si_cV F (IH 6 mm6) mp6 (by decide) rfl rfl (by decide) tb_621 mi6 ms6 mn6 mc6 dX0_run_139)
  (zc_so (si_aload_n F dX0_run_142 rfl)
  (zc_so (si_getI (k := 3) F rfl inT0 (by decide) (by decide) rfl rfl tb_182 dX0_run_143)
  (zc_so (si_isub F dX0_run_146)
  (zc_so (si_rI F hQ hn hz hlocks hr (fun _ _ => rfl) dX0_run_147)
  (zc_so (si_aload_n F dX0_run_148 rfl)
  (zc_so (si_iconst F dX0_run_149 rfl)
  (zc_so (si_iload_n F dX0_run_150 rfl)
  (zc_so (si_iload_n F dX0_run_151 rfl)
  (zc_so (si_cV F (IH 6 mm6) mp6 (by decide) rfl rfl (by decide) tb_621 mi6 ms6 mn6 mc6 dX0_run_152)
  (zc_so (si_iconst F dX0_run_155 rfl)
  (zc_so (si_imul F dX0_run_156)
  (zc_so (si_rI F hQ hn hz hlocks hr (fun _ _ => rfl) dX0_run_157)
  (zc_so (si_aload_n F dX0_run_158 rfl)
  (zc_so (si_iconst F dX0_run_159 rfl)
  (zc_so (si_iconst F dX0_run_160 rfl)
  (zc_so (si_iload_n F dX0_run_161 rfl)
  (zc_so (si_iload_n F dX0_run_162 rfl)
  (zc_so (si_cV F (IH 7 mm7) mp7 (by decide) rfl rfl (by decide) tb_636 mi7 ms7 mn7 mc7 dX0_run_163)
  (zc_so (si_bipush F dX0_run_166 rfl)
  (zc_so (si_ixor F dX0_run_168)
  (zc_so (si_rI F hQ hn hz hlocks hr (fun _ _ => rfl) dX0_run_169)
  (zc_so (si_aload_n F dX0_run_170 rfl)
  (zc_so (si_iconst F dX0_run_171 rfl)
  (zc_so (si_iconst F dX0_run_172 rfl)
  (zc_so (si_iload_n F dX0_run_173 rfl)
  (zc_so (si_iconst F dX0_run_174 rfl)
  (zc_so (si_imul F dX0_run_175)
  (zc_so (si_iload_n F dX0_run_176 rfl)
  (zc_so (si_cV F (IH 7 mm7) mp7 (by decide) rfl rfl (by decide) tb_636 mi7 ms7 mn7 mc7 dX0_run_177)
  (zc_so (si_rI F hQ hn hz hlocks hr (fun _ _ => rfl) dX0_run_180)
  (zc_so (si_aload_n F dX0_run_181 rfl)
  (zc_so (si_iconst F dX0_run_182 rfl)
  (zc_so (si_iconst F dX0_run_183 rfl)
  (zc_so (si_iload_n F dX0_run_184 rfl)
  (zc_so (si_iload_n F dX0_run_185 rfl)
  (zc_so (si_cV F (IH 7 mm7) mp7 (by decide) rfl rfl (by decide) tb_636 mi7 ms7 mn7 mc7 dX0_run_186)
  (zc_so (si_aload_n F dX0_run_189 rfl)
  (zc_so (si_iconst F dX0_run_190 rfl)
  (zc_so (si_iconst F dX0_run_191 rfl)
  (zc_nil)))))))))))))))))))))))))))))))))))))))))))))))))
theorem sd9_3 (F : zFx p l R s m args meth c D cid kv N0 xs Ls RX0 cX0_run 4 n0 z0 nF zE d) (IH : zAllM l D cid kv N0 xs Ls d) (hQ : ∀ v h, Qq v h → v = r0 ∧ h = hF) (hn : nF = zN hF) (hz : zE = zZ hF) (hlocks : meth.locks = false) (hr : meth.sig.returnType = (some .int)) : zSoL p l e R s m args below meth c D cid kv N0 xs Ls 4 (MQ below (zQc D cid kv N0 xs Ls ρ0 r0 hF) args s (nF - n0) (zE - z0) (zA N0)) ρ0 n0 z0 nF zE Qq (zCall d) zt9_3 := zc_so (si_iload_n F dX0_run_192 rfl)
  (zc_so (si_cV F (IH 6 mm6) mp6 (by decide) rfl rfl (by decide) tb_621 mi6 ms6 mn6 mc6 dX0_run_193)
  (zc_so (si_iadd F dX0_run_196)
  (zc_so (si_rI F hQ hn hz hlocks hr (fun _ _ => rfl) dX0_run_197)
  (zc_so (si_aload_n F dX0_run_198 rfl)
  (zc_so (si_iconst F dX0_run_199 rfl)
  (zc_so (si_iconst F dX0_run_200 rfl)
  (zc_so (si_iload_n F dX0_run_201 rfl)
  (zc_so (si_iload_n F dX0_run_202 rfl)
  (zc_so (si_cV F (IH 7 mm7) mp7 (by decide) rfl rfl (by decide) tb_636 mi7 ms7 mn7 mc7 dX0_run_203)
  (zc_so (si_ineg F dX0_run_206)
  (zc_so (si_rI F hQ hn hz hlocks hr (fun _ _ => rfl) dX0_run_207)
  (zc_so (si_aload_n F dX0_run_208 rfl)
  (zc_so (si_iconst F dX0_run_209 rfl)
  (zc_so (si_iconst F dX0_run_210 rfl)
  (zc_so (si_iload_n F dX0_run_211 rfl)
  (zc_so (si_iconst F dX0_run_212 rfl)
  (zc_so (si_iadd F dX0_run_213)
  (zc_so (si_iload_n F dX0_run_214 rfl)
  (zc_so (si_cV F (IH 7 mm7) mp7 (by decide) rfl rfl (by decide) tb_636 mi7 ms7 mn7 mc7 dX0_run_215)
  (zc_so (si_rI F hQ hn hz hlocks hr (fun _ _ => rfl) dX0_run_218)
  (zc_so (si_aload_n F dX0_run_219 rfl)
  (zc_so (si_iconst F dX0_run_220 rfl)
  (zc_so (si_iconst F dX0_run_221 rfl)
  (zc_so (si_iload_n F dX0_run_222 rfl)
  (zc_so (si_aload_n F dX0_run_223 rfl)
  (zc_so (si_getI (k := 2) F rfl inT0 (by decide) (by decide) rfl rfl tb_181 dX0_run_224)
  (zc_so (si_isub F dX0_run_227)
  (zc_so (si_iload_n F dX0_run_228 rfl)
  (zc_so (si_cV F (IH 7 mm7) mp7 (by decide) rfl rfl (by decide) tb_636 mi7 ms7 mn7 mc7 dX0_run_229)
  (zc_so (si_rI F hQ hn hz hlocks hr (fun _ _ => rfl) dX0_run_232)
  (zc_so (si_aload_n F dX0_run_233 rfl)
  (zc_so (si_bipush F dX0_run_234 rfl)
  (zc_so (si_iconst F dX0_run_236 rfl)
  (zc_so (si_iload_n F dX0_run_237 rfl)
  (zc_so (si_iload_n F dX0_run_238 rfl)
  (zc_so (si_cV F (IH 7 mm7) mp7 (by decide) rfl rfl (by decide) tb_636 mi7 ms7 mn7 mc7 dX0_run_239)
  (zc_so (si_aload_n F dX0_run_242 rfl)
  (zc_so (si_bipush F dX0_run_243 rfl)
  (zc_so (si_iconst F dX0_run_245 rfl)
  (zc_so (si_iconst F dX0_run_246 rfl)
  (zc_so (si_iload_n F dX0_run_247 rfl)
  (zc_so (si_cV F (IH 7 mm7) mp7 (by decide) rfl rfl (by decide) tb_636 mi7 ms7 mn7 mc7 dX0_run_248)
  (zc_so (si_iadd F dX0_run_251)
  (zc_so (si_rI F hQ hn hz hlocks hr (fun _ _ => rfl) dX0_run_252)
  (zc_so (si_aload_n F dX0_run_253 rfl)
  (zc_so (si_bipush F dX0_run_254 rfl)
  (zc_nil)))))))))))))))))))))))))))))))))))))))))))))))
theorem sd9_4 (F : zFx p l R s m args meth c D cid kv N0 xs Ls RX0 cX0_run 4 n0 z0 nF zE d) (IH : zAllM l D cid kv N0 xs Ls d) (hQ : ∀ v h, Qq v h → v = r0 ∧ h = hF) (hn : nF = zN hF) (hz : zE = zZ hF) (hlocks : meth.locks = false) (hr : meth.sig.returnType = (some .int)) : zSoL p l e R s m args below meth c D cid kv N0 xs Ls 4 (MQ below (zQc D cid kv N0 xs Ls ρ0 r0 hF) args s (nF - n0) (zE - z0) (zA N0)) ρ0 n0 z0 nF zE Qq (zCall d) zt9_4 := zc_so (si_iconst F dX0_run_256 rfl)
  (zc_so (si_iload_n F dX0_run_257 rfl)
  (zc_so (si_iload_n F dX0_run_258 rfl)
  (zc_so (si_cV F (IH 7 mm7) mp7 (by decide) rfl rfl (by decide) tb_636 mi7 ms7 mn7 mc7 dX0_run_259)
  (zc_so (si_aload_n F dX0_run_262 rfl)
  (zc_so (si_getI (k := 3) F rfl inT0 (by decide) (by decide) rfl rfl tb_182 dX0_run_263)
  (zc_so (si_ixor F dX0_run_266)
  (zc_so (si_rI F hQ hn hz hlocks hr (fun _ _ => rfl) dX0_run_267)
  (zc_so (si_iconst F dX0_run_268 rfl)
  (zc_so (si_rI F hQ hn hz hlocks hr (fun _ _ => rfl) dX0_run_269)
  (zc_nil))))))))))
theorem sd9 (F : zFx p l R s m args meth c D cid kv N0 xs Ls RX0 cX0_run 4 n0 z0 nF zE d) (IH : zAllM l D cid kv N0 xs Ls d) (hQ : ∀ v h, Qq v h → v = r0 ∧ h = hF) (hn : nF = zN hF) (hz : zE = zZ hF) (hlocks : meth.locks = false) (hr : meth.sig.returnType = (some .int)) (pc : Nat) : zSo p l e R s m args below meth c D cid kv N0 xs Ls 4 (MQ below (zQc D cid kv N0 xs Ls ρ0 r0 hF) args s (nF - n0) (zE - z0) (zA N0)) ρ0 n0 z0 nF zE Qq (zCall d) pc (zTab 9 pc) := zc_tab [zt9_0, zt9_1, zt9_2, zt9_3, zt9_4] (zc_cons (sd9_0 F IH hQ hn hz hlocks hr) (zc_cons (sd9_1 F IH hQ hn hz hlocks hr) (zc_cons (sd9_2 F IH hQ hn hz hlocks hr) (zc_cons (sd9_3 F IH hQ hn hz hlocks hr) (zc_cons (sd9_4 F IH hQ hn hz hlocks hr) zc_end)))))
theorem dX1_init_0 : decode cX1_init 0 = .ok (.aload_n 0, 1) := by decide +kernel
theorem dX1_init_1 : decode cX1_init 1 = .ok (.invokespecial 3, 3) := by decide +kernel
theorem dX1_init_4 : decode cX1_init 4 = .ok (.aload_n 0, 1) := by decide +kernel
theorem dX1_init_5 : decode cX1_init 5 = .ok (.new 9, 3) := by decide +kernel
theorem dX1_init_8 : decode cX1_init 8 = .ok (.dup, 1) := by decide +kernel
theorem dX1_init_9 : decode cX1_init 9 = .ok (.iconst 5, 1) := by decide +kernel
theorem dX1_init_10 : decode cX1_init 10 = .ok (.invokespecial 11, 3) := by decide +kernel
theorem dX1_init_13 : decode cX1_init 13 = .ok (.putfield 14, 3) := by decide +kernel
theorem dX1_init_16 : decode cX1_init 16 = .ok (.aload_n 0, 1) := by decide +kernel
theorem dX1_init_17 : decode cX1_init 17 = .ok (.new 9, 3) := by decide +kernel
theorem dX1_init_20 : decode cX1_init 20 = .ok (.dup, 1) := by decide +kernel
theorem dX1_init_21 : decode cX1_init 21 = .ok (.bipush 10, 2) := by decide +kernel
theorem dX1_init_23 : decode cX1_init 23 = .ok (.invokespecial 11, 3) := by decide +kernel
theorem dX1_init_26 : decode cX1_init 26 = .ok (.putfield 20, 3) := by decide +kernel
theorem dX1_init_29 : decode cX1_init 29 = .ok (.aload_n 0, 1) := by decide +kernel
theorem dX1_init_30 : decode cX1_init 30 = .ok (.new 9, 3) := by decide +kernel
theorem dX1_init_33 : decode cX1_init 33 = .ok (.dup, 1) := by decide +kernel
theorem dX1_init_34 : decode cX1_init 34 = .ok (.bipush 8, 2) := by decide +kernel
theorem dX1_init_36 : decode cX1_init 36 = .ok (.invokespecial 11, 3) := by decide +kernel
theorem dX1_init_39 : decode cX1_init 39 = .ok (.putfield 23, 3) := by decide +kernel
theorem dX1_init_42 : decode cX1_init 42 = .ok (.return_, 1) := by decide +kernel
theorem sd101_0 (F : zFx p l R s m args meth c D cid kv N0 xs Ls RX1 cX1_init 1 n0 z0 nF zE d) (IH : zAllM l D cid kv N0 xs Ls d) (hQ : ∀ v h, Qq v h → v = r0 ∧ h = hF) (hn : nF = zN hF) (hz : zE = zZ hF) (hlocks : meth.locks = false) (hr : meth.sig.returnType = none) (hin : meth.name = "<init>") : zSoL p l e R s m args below meth c D cid kv N0 xs Ls 1 (MQ below (zQc D cid kv N0 xs Ls ρ0 r0 hF) args s (nF - n0) (zE - z0) (zA N0)) ρ0 n0 z0 nF zE Qq (zCall d) zt101_0 := zc_so (si_aload_n F dX1_init_0 rfl)
  (zc_so (si_oinit F tb_89 tb_23 tb_24 dX1_init_1)
  (zc_so (si_aload_n F dX1_init_4 rfl)
  (zc_so (si_new F rfl inT3 (by decide) tyX3_ok nwX3 tb_90 tb_91 tb_4 dX1_init_5)
  (zc_so (si_dup F dX1_init_8)
  (zc_so (si_iconst F dX1_init_9 rfl)
  (zc_so (si_cI  F (IH 301 mm301) mp301 (by decide) rfl tb_92 mi301 mn301 mc301 dX1_init_10)
  (zc_so (si_putRF (k := 0) F rfl inT1 (by decide) (by decide) rfl rfl rfl (fun o => by cases o <;> exact ⟨rfl, rfl⟩) rfl hin rfl tyX1_ok nmX1 tb_119 dX1_init_13)
  (zc_so (si_aload_n F dX1_init_16 rfl)
  (zc_so (si_new F rfl inT3 (by decide) tyX3_ok nwX3 tb_90 tb_91 tb_4 dX1_init_17)
  (zc_so (si_dup F dX1_init_20)
  (zc_so (si_bipush F dX1_init_21 rfl)
  (zc_so (si_cI  F (IH 301 mm301) mp301 (by decide) rfl tb_92 mi301 mn301 mc301 dX1_init_23)
  (zc_so (si_putRF (k := 1) F rfl inT1 (by decide) (by decide) rfl rfl rfl (fun o => by cases o <;> exact ⟨rfl, rfl⟩) rfl hin rfl tyX1_ok nmX1 tb_121 dX1_init_26)
  (zc_so (si_aload_n F dX1_init_29 rfl)
  (zc_so (si_new F rfl inT3 (by decide) tyX3_ok nwX3 tb_90 tb_91 tb_4 dX1_init_30)
  (zc_so (si_dup F dX1_init_33)
  (zc_so (si_bipush F dX1_init_34 rfl)
  (zc_so (si_cI  F (IH 301 mm301) mp301 (by decide) rfl tb_92 mi301 mn301 mc301 dX1_init_36)
  (zc_so (si_putRF (k := 2) F rfl inT1 (by decide) (by decide) rfl rfl rfl (fun o => by cases o <;> exact ⟨rfl, rfl⟩) rfl hin rfl tyX1_ok nmX1 tb_123 dX1_init_39)
  (zc_so (si_rV F hQ hn hz hlocks hr dX1_init_42)
  (zc_nil)))))))))))))))))))))
theorem sd101 (F : zFx p l R s m args meth c D cid kv N0 xs Ls RX1 cX1_init 1 n0 z0 nF zE d) (IH : zAllM l D cid kv N0 xs Ls d) (hQ : ∀ v h, Qq v h → v = r0 ∧ h = hF) (hn : nF = zN hF) (hz : zE = zZ hF) (hlocks : meth.locks = false) (hr : meth.sig.returnType = none) (hin : meth.name = "<init>") (pc : Nat) : zSo p l e R s m args below meth c D cid kv N0 xs Ls 1 (MQ below (zQc D cid kv N0 xs Ls ρ0 r0 hF) args s (nF - n0) (zE - z0) (zA N0)) ρ0 n0 z0 nF zE Qq (zCall d) pc (zTab 101 pc) := zc_tab [zt101_0] (zc_cons (sd101_0 F IH hQ hn hz hlocks hr hin) zc_end)
theorem dX1_copy_0 : decode cX1_copy 0 = .ok (.aload_n 0, 1) := by decide +kernel
theorem dX1_copy_1 : decode cX1_copy 1 = .ok (.getfield 14, 3) := by decide +kernel
theorem dX1_copy_4 : decode cX1_copy 4 = .ok (.aload_n 1, 1) := by decide +kernel
theorem dX1_copy_5 : decode cX1_copy 5 = .ok (.getfield 14, 3) := by decide +kernel
theorem dX1_copy_8 : decode cX1_copy 8 = .ok (.invokevirtual 26, 3) := by decide +kernel
theorem dX1_copy_11 : decode cX1_copy 11 = .ok (.aload_n 0, 1) := by decide +kernel
theorem dX1_copy_12 : decode cX1_copy 12 = .ok (.getfield 20, 3) := by decide +kernel
theorem dX1_copy_15 : decode cX1_copy 15 = .ok (.aload_n 1, 1) := by decide +kernel
theorem dX1_copy_16 : decode cX1_copy 16 = .ok (.getfield 20, 3) := by decide +kernel
theorem dX1_copy_19 : decode cX1_copy 19 = .ok (.invokevirtual 26, 3) := by decide +kernel
theorem dX1_copy_22 : decode cX1_copy 22 = .ok (.aload_n 0, 1) := by decide +kernel
theorem dX1_copy_23 : decode cX1_copy 23 = .ok (.getfield 23, 3) := by decide +kernel
theorem dX1_copy_26 : decode cX1_copy 26 = .ok (.aload_n 1, 1) := by decide +kernel
theorem dX1_copy_27 : decode cX1_copy 27 = .ok (.getfield 23, 3) := by decide +kernel
theorem dX1_copy_30 : decode cX1_copy 30 = .ok (.invokevirtual 26, 3) := by decide +kernel
theorem dX1_copy_33 : decode cX1_copy 33 = .ok (.return_, 1) := by decide +kernel
theorem sd102_0 (F : zFx p l R s m args meth c D cid kv N0 xs Ls RX1 cX1_copy 2 n0 z0 nF zE d) (IH : zAllM l D cid kv N0 xs Ls d) (hQ : ∀ v h, Qq v h → v = r0 ∧ h = hF) (hn : nF = zN hF) (hz : zE = zZ hF) (hlocks : meth.locks = false) (hr : meth.sig.returnType = none) : zSoL p l e R s m args below meth c D cid kv N0 xs Ls 2 (MQ below (zQc D cid kv N0 xs Ls ρ0 r0 hF) args s (nF - n0) (zE - z0) (zA N0)) ρ0 n0 z0 nF zE Qq (zCall d) zt102_0 := zc_so (si_aload_n F dX1_copy_0 rfl)
  (zc_so (si_getR (k := 0) F rfl inT1 (by decide) (by decide) rfl rfl tb_119 dX1_copy_1)
  (zc_so (si_aload_n F dX1_copy_4 rfl)
  (zc_so (si_getR (k := 0) F rfl inT1 (by decide) (by decide) rfl rfl tb_119 dX1_copy_5)
  (zc_so (si_cV F (IH 304 mm304) mp304 (by decide) rfl rfl (by decide) tb_600 mi304 ms304 mn304 mc304 dX1_copy_8)
  (zc_so (si_aload_n F dX1_copy_11 rfl)
  (zc_so (si_getR (k := 1) F rfl inT1 (by decide) (by decide) rfl rfl tb_121 dX1_copy_12)
  (zc_so (si_aload_n F dX1_copy_15 rfl)
  (zc_so (si_getR (k := 1) F rfl inT1 (by decide) (by decide) rfl rfl tb_121 dX1_copy_16)
  (zc_so (si_cV F (IH 304 mm304) mp304 (by decide) rfl rfl (by decide) tb_600 mi304 ms304 mn304 mc304 dX1_copy_19)
  (zc_so (si_aload_n F dX1_copy_22 rfl)
  (zc_so (si_getR (k := 2) F rfl inT1 (by decide) (by decide) rfl rfl tb_123 dX1_copy_23)
  (zc_so (si_aload_n F dX1_copy_26 rfl)
  (zc_so (si_getR (k := 2) F rfl inT1 (by decide) (by decide) rfl rfl tb_123 dX1_copy_27)
  (zc_so (si_cV F (IH 304 mm304) mp304 (by decide) rfl rfl (by decide) tb_600 mi304 ms304 mn304 mc304 dX1_copy_30)
  (zc_so (si_rV F hQ hn hz hlocks hr dX1_copy_33)
  (zc_nil))))))))))))))))
theorem sd102 (F : zFx p l R s m args meth c D cid kv N0 xs Ls RX1 cX1_copy 2 n0 z0 nF zE d) (IH : zAllM l D cid kv N0 xs Ls d) (hQ : ∀ v h, Qq v h → v = r0 ∧ h = hF) (hn : nF = zN hF) (hz : zE = zZ hF) (hlocks : meth.locks = false) (hr : meth.sig.returnType = none) (pc : Nat) : zSo p l e R s m args below meth c D cid kv N0 xs Ls 2 (MQ below (zQc D cid kv N0 xs Ls ρ0 r0 hF) args s (nF - n0) (zE - z0) (zA N0)) ρ0 n0 z0 nF zE Qq (zCall d) pc (zTab 102 pc) := zc_tab [zt102_0] (zc_cons (sd102_0 F IH hQ hn hz hlocks hr) zc_end)
theorem dX1_lastSeenDay_0 : decode cX1_lastSeenDay 0 = .ok (.iconst (-1), 1) := by decide +kernel
theorem dX1_lastSeenDay_1 : decode cX1_lastSeenDay 1 = .ok (.istore_n 1, 1) := by decide +kernel
theorem dX1_lastSeenDay_2 : decode cX1_lastSeenDay 2 = .ok (.iconst 0, 1) := by decide +kernel
theorem dX1_lastSeenDay_3 : decode cX1_lastSeenDay 3 = .ok (.istore_n 2, 1) := by decide +kernel
theorem dX1_lastSeenDay_4 : decode cX1_lastSeenDay 4 = .ok (.iload_n 2, 1) := by decide +kernel
theorem dX1_lastSeenDay_5 : decode cX1_lastSeenDay 5 = .ok (.aload_n 0, 1) := by decide +kernel
theorem dX1_lastSeenDay_6 : decode cX1_lastSeenDay 6 = .ok (.getfield 14, 3) := by decide +kernel
theorem dX1_lastSeenDay_9 : decode cX1_lastSeenDay 9 = .ok (.getfield 30, 3) := by decide +kernel
theorem dX1_lastSeenDay_12 : decode cX1_lastSeenDay 12 = .ok (.if_icmp .ge 23, 3) := by decide +kernel
theorem dX1_lastSeenDay_15 : decode cX1_lastSeenDay 15 = .ok (.iload_n 1, 1) := by decide +kernel
theorem dX1_lastSeenDay_16 : decode cX1_lastSeenDay 16 = .ok (.aload_n 0, 1) := by decide +kernel
theorem dX1_lastSeenDay_17 : decode cX1_lastSeenDay 17 = .ok (.getfield 14, 3) := by decide +kernel
theorem dX1_lastSeenDay_20 : decode cX1_lastSeenDay 20 = .ok (.getfield 34, 3) := by decide +kernel
theorem dX1_lastSeenDay_23 : decode cX1_lastSeenDay 23 = .ok (.iload_n 2, 1) := by decide +kernel
theorem dX1_lastSeenDay_24 : decode cX1_lastSeenDay 24 = .ok (.iaload, 1) := by decide +kernel
theorem dX1_lastSeenDay_25 : decode cX1_lastSeenDay 25 = .ok (.invokestatic 38, 3) := by decide +kernel
theorem dX1_lastSeenDay_28 : decode cX1_lastSeenDay 28 = .ok (.istore_n 1, 1) := by decide +kernel
theorem dX1_lastSeenDay_29 : decode cX1_lastSeenDay 29 = .ok (.iinc 2 1, 3) := by decide +kernel
theorem dX1_lastSeenDay_32 : decode cX1_lastSeenDay 32 = .ok (.goto (-28), 3) := by decide +kernel
theorem dX1_lastSeenDay_35 : decode cX1_lastSeenDay 35 = .ok (.iload_n 1, 1) := by decide +kernel
theorem dX1_lastSeenDay_36 : decode cX1_lastSeenDay 36 = .ok (.ireturn, 1) := by decide +kernel
theorem sd103_0 (F : zFx p l R s m args meth c D cid kv N0 xs Ls RX1 cX1_lastSeenDay 3 n0 z0 nF zE d) (IH : zAllM l D cid kv N0 xs Ls d) (hQ : ∀ v h, Qq v h → v = r0 ∧ h = hF) (hn : nF = zN hF) (hz : zE = zZ hF) (hlocks : meth.locks = false) (hr : meth.sig.returnType = (some .int)) : zSoL p l e R s m args below meth c D cid kv N0 xs Ls 3 (MQ below (zQc D cid kv N0 xs Ls ρ0 r0 hF) args s (nF - n0) (zE - z0) (zA N0)) ρ0 n0 z0 nF zE Qq (zCall d) zt103_0 := zc_so (si_iconst F dX1_lastSeenDay_0 rfl)
  (zc_so (si_istore_n F dX1_lastSeenDay_1 rfl)
  (zc_so (si_iconst F dX1_lastSeenDay_2 rfl)
  (zc_so (si_istore_n F dX1_lastSeenDay_3 rfl)
  (zc_so (si_iload_n F dX1_lastSeenDay_4 rfl)
  (zc_so (si_aload_n F dX1_lastSeenDay_5 rfl)
  (zc_so (si_getR (k := 0) F rfl inT1 (by decide) (by decide) rfl rfl tb_119 dX1_lastSeenDay_6)
  (zc_so (si_getI (k := 3) F rfl inT3 (by decide) (by decide) rfl rfl tb_108 dX1_lastSeenDay_9)
  (zc_so (si_icge F dX1_lastSeenDay_12 rfl)
  (zc_so (si_iload_n F dX1_lastSeenDay_15 rfl)
  (zc_so (si_aload_n F dX1_lastSeenDay_16 rfl)
  (zc_so (si_getR (k := 0) F rfl inT1 (by decide) (by decide) rfl rfl tb_119 dX1_lastSeenDay_17)
  (zc_so (si_getR (k := 1) F rfl inT3 (by decide) (by decide) rfl rfl tb_103 dX1_lastSeenDay_20)
  (zc_so (si_iload_n F dX1_lastSeenDay_23 rfl)
  (zc_so (si_iaload F dX1_lastSeenDay_24)
  (zc_so (si_max F tb_536 tb_97 tb_5 tb_98 dX1_lastSeenDay_25)
  (zc_so (si_istore_n F dX1_lastSeenDay_28 rfl)
  (zc_so (si_iinc F dX1_lastSeenDay_29 rfl)
  (zc_so (si_goto F dX1_lastSeenDay_32 rfl)
  (zc_so (si_iload_n F dX1_lastSeenDay_35 rfl)
  (zc_so (si_rI F hQ hn hz hlocks hr (fun _ _ => rfl) dX1_lastSeenDay_36)
  (zc_nil)))))))))))))))))))))
theorem sd103 (F : zFx p l R s m args meth c D cid kv N0 xs Ls RX1 cX1_lastSeenDay 3 n0 z0 nF zE d) (IH : zAllM l D cid kv N0 xs Ls d) (hQ : ∀ v h, Qq v h → v = r0 ∧ h = hF) (hn : nF = zN hF) (hz : zE = zZ hF) (hlocks : meth.locks = false) (hr : meth.sig.returnType = (some .int)) (pc : Nat) : zSo p l e R s m args below meth c D cid kv N0 xs Ls 3 (MQ below (zQc D cid kv N0 xs Ls ρ0 r0 hF) args s (nF - n0) (zE - z0) (zA N0)) ρ0 n0 z0 nF zE Qq (zCall d) pc (zTab 103 pc) := zc_tab [zt103_0] (zc_cons (sd103_0 F IH hQ hn hz hlocks hr) zc_end)
theorem dX1_seenElsewhere_0 : decode cX1_seenElsewhere 0 = .ok (.iconst 0, 1) := by decide +kernel
theorem dX1_seenElsewhere_1 : decode cX1_seenElsewhere 1 = .ok (.istore_n 3, 1) := by decide +kernel
theorem dX1_seenElsewhere_2 : decode cX1_seenElsewhere 2 = .ok (.iload_n 3, 1) := by decide +kernel
theorem dX1_seenElsewhere_3 : decode cX1_seenElsewhere 3 = .ok (.aload_n 0, 1) := by decide +kernel
theorem dX1_seenElsewhere_4 : decode cX1_seenElsewhere 4 = .ok (.getfield 14, 3) := by decide +kernel
theorem dX1_seenElsewhere_7 : decode cX1_seenElsewhere 7 = .ok (.getfield 30, 3) := by decide +kernel
theorem dX1_seenElsewhere_10 : decode cX1_seenElsewhere 10 = .ok (.if_icmp .ge 49, 3) := by decide +kernel
theorem dX1_seenElsewhere_13 : decode cX1_seenElsewhere 13 = .ok (.aload_n 0, 1) := by decide +kernel
theorem dX1_seenElsewhere_14 : decode cX1_seenElsewhere 14 = .ok (.getfield 14, 3) := by decide +kernel
theorem dX1_seenElsewhere_17 : decode cX1_seenElsewhere 17 = .ok (.getfield 34, 3) := by decide +kernel
theorem dX1_seenElsewhere_20 : decode cX1_seenElsewhere 20 = .ok (.iload_n 3, 1) := by decide +kernel
theorem dX1_seenElsewhere_21 : decode cX1_seenElsewhere 21 = .ok (.iaload, 1) := by decide +kernel
theorem dX1_seenElsewhere_22 : decode cX1_seenElsewhere 22 = .ok (.iload_n 2, 1) := by decide +kernel
theorem dX1_seenElsewhere_23 : decode cX1_seenElsewhere 23 = .ok (.if_icmp .ne 30, 3) := by decide +kernel
theorem dX1_seenElsewhere_26 : decode cX1_seenElsewhere 26 = .ok (.aload_n 1, 1) := by decide +kernel
theorem dX1_seenElsewhere_27 : decode cX1_seenElsewhere 27 = .ok (.aload_n 0, 1) := by decide +kernel
theorem dX1_seenElsewhere_28 : decode cX1_seenElsewhere 28 = .ok (.getfield 14, 3) := by decide +kernel
theorem dX1_seenElsewhere_31 : decode cX1_seenElsewhere 31 = .ok (.getfield 44, 3) := by decide +kernel
theorem dX1_seenElsewhere_34 : decode cX1_seenElsewhere 34 = .ok (.iload_n 3, 1) := by decide +kernel
theorem dX1_seenElsewhere_35 : decode cX1_seenElsewhere 35 = .ok (.iaload, 1) := by decide +kernel
theorem dX1_seenElsewhere_36 : decode cX1_seenElsewhere 36 = .ok (.aload_n 0, 1) := by decide +kernel
theorem dX1_seenElsewhere_37 : decode cX1_seenElsewhere 37 = .ok (.getfield 14, 3) := by decide +kernel
theorem dX1_seenElsewhere_40 : decode cX1_seenElsewhere 40 = .ok (.getfield 47, 3) := by decide +kernel
theorem dX1_seenElsewhere_43 : decode cX1_seenElsewhere 43 = .ok (.iload_n 3, 1) := by decide +kernel
theorem dX1_seenElsewhere_44 : decode cX1_seenElsewhere 44 = .ok (.iaload, 1) := by decide +kernel
theorem dX1_seenElsewhere_45 : decode cX1_seenElsewhere 45 = .ok (.invokevirtual 50, 3) := by decide +kernel
theorem dX1_seenElsewhere_48 : decode cX1_seenElsewhere 48 = .ok (.ifCond .ne 5, 3) := by decide +kernel
theorem dX1_seenElsewhere_51 : decode cX1_seenElsewhere 51 = .ok (.iconst 1, 1) := by decide +kernel
theorem dX1_seenElsewhere_52 : decode cX1_seenElsewhere 52 = .ok (.ireturn, 1) := by decide +kernel
theorem dX1_seenElsewhere_53 : decode cX1_seenElsewhere 53 = .ok (.iinc 3 1, 3) := by decide +kernel
theorem dX1_seenElsewhere_56 : decode cX1_seenElsewhere 56 = .ok (.goto (-54), 3) := by decide +kernel
theorem dX1_seenElsewhere_59 : decode cX1_seenElsewhere 59 = .ok (.iconst 0, 1) := by decide +kernel
theorem dX1_seenElsewhere_60 : decode cX1_seenElsewhere 60 = .ok (.ireturn, 1) := by decide +kernel
theorem sd104_0 (F : zFx p l R s m args meth c D cid kv N0 xs Ls RX1 cX1_seenElsewhere 4 n0 z0 nF zE d) (IH : zAllM l D cid kv N0 xs Ls d) (hQ : ∀ v h, Qq v h → v = r0 ∧ h = hF) (hn : nF = zN hF) (hz : zE = zZ hF) (hlocks : meth.locks = false) (hr : meth.sig.returnType = (some .boolean)) : zSoL p l e R s m args below meth c D cid kv N0 xs Ls 4 (MQ below (zQc D cid kv N0 xs Ls ρ0 r0 hF) args s (nF - n0) (zE - z0) (zA N0)) ρ0 n0 z0 nF zE Qq (zCall d) zt104_0 := zc_so (si_iconst F dX1_seenElsewhere_0 rfl)
  (zc_so (si_istore_n F dX1_seenElsewhere_1 rfl)
  (zc_so (si_iload_n F dX1_seenElsewhere_2 rfl)
  (zc_so (si_aload_n F dX1_seenElsewhere_3 rfl)
  (zc_so (si_getR (k := 0) F rfl inT1 (by decide) (by decide) rfl rfl tb_119 dX1_seenElsewhere_4)
  (zc_so (si_getI (k := 3) F rfl inT3 (by decide) (by decide) rfl rfl tb_108 dX1_seenElsewhere_7)
  (zc_so (si_icge F dX1_seenElsewhere_10 rfl)
  (zc_so (si_aload_n F dX1_seenElsewhere_13 rfl)
  (zc_so (si_getR (k := 0) F rfl inT1 (by decide) (by decide) rfl rfl tb_119 dX1_seenElsewhere_14)
  (zc_so (si_getR (k := 1) F rfl inT3 (by decide) (by decide) rfl rfl tb_103 dX1_seenElsewhere_17)
  (zc_so (si_iload_n F dX1_seenElsewhere_20 rfl)
  (zc_so (si_iaload F dX1_seenElsewhere_21)
  (zc_so (si_iload_n F dX1_seenElsewhere_22 rfl)
  (zc_so (si_icne F dX1_seenElsewhere_23 rfl)
  (zc_so (si_aload_n F dX1_seenElsewhere_26 rfl)
  (zc_so (si_aload_n F dX1_seenElsewhere_27 rfl)
  (zc_so (si_getR (k := 0) F rfl inT1 (by decide) (by decide) rfl rfl tb_119 dX1_seenElsewhere_28)
  (zc_so (si_getR (k := 0) F rfl inT3 (by decide) (by decide) rfl rfl tb_100 dX1_seenElsewhere_31)
  (zc_so (si_iload_n F dX1_seenElsewhere_34 rfl)
  (zc_so (si_iaload F dX1_seenElsewhere_35)
  (zc_so (si_aload_n F dX1_seenElsewhere_36 rfl)
  (zc_so (si_getR (k := 0) F rfl inT1 (by decide) (by decide) rfl rfl tb_119 dX1_seenElsewhere_37)
  (zc_so (si_getR (k := 2) F rfl inT3 (by decide) (by decide) rfl rfl tb_106 dX1_seenElsewhere_40)
  (zc_so (si_iload_n F dX1_seenElsewhere_43 rfl)
  (zc_so (si_iaload F dX1_seenElsewhere_44)
  (zc_so (si_cV F (IH 206 mm206) mp206 (by decide) rfl rfl (by decide) tb_541 mi206 ms206 mn206 mc206 dX1_seenElsewhere_45)
  (zc_so (si_ifne F dX1_seenElsewhere_48 rfl)
  (zc_so (si_iconst F dX1_seenElsewhere_51 rfl)
  (zc_so (si_rI F hQ hn hz hlocks hr (fun x h => by rcases h with rfl | rfl <;> rfl) dX1_seenElsewhere_52)
  (zc_so (si_iinc F dX1_seenElsewhere_53 rfl)
  (zc_so (si_goto F dX1_seenElsewhere_56 rfl)
  (zc_so (si_iconst F dX1_seenElsewhere_59 rfl)
  (zc_so (si_rI F hQ hn hz hlocks hr (fun x h => by rcases h with rfl | rfl <;> rfl) dX1_seenElsewhere_60)
  (zc_nil)))))))))))))))))))))))))))))))))
theorem sd104 (F : zFx p l R s m args meth c D cid kv N0 xs Ls RX1 cX1_seenElsewhere 4 n0 z0 nF zE d) (IH : zAllM l D cid kv N0 xs Ls d) (hQ : ∀ v h, Qq v h → v = r0 ∧ h = hF) (hn : nF = zN hF) (hz : zE = zZ hF) (hlocks : meth.locks = false) (hr : meth.sig.returnType = (some .boolean)) (pc : Nat) : zSo p l e R s m args below meth c D cid kv N0 xs Ls 4 (MQ below (zQc D cid kv N0 xs Ls ρ0 r0 hF) args s (nF - n0) (zE - z0) (zA N0)) ρ0 n0 z0 nF zE Qq (zCall d) pc (zTab 104 pc) := zc_tab [zt104_0] (zc_cons (sd104_0 F IH hQ hn hz hlocks hr) zc_end)
theorem dX2_init_0 : decode cX2_init 0 = .ok (.aload_n 0, 1) := by decide +kernel
theorem dX2_init_1 : decode cX2_init 1 = .ok (.invokespecial 3, 3) := by decide +kernel
theorem dX2_init_4 : decode cX2_init 4 = .ok (.aload_n 0, 1) := by decide +kernel
theorem dX2_init_5 : decode cX2_init 5 = .ok (.bipush 6, 2) := by decide +kernel
theorem dX2_init_7 : decode cX2_init 7 = .ok (.newarray .int, 2) := by decide +kernel
theorem dX2_init_9 : decode cX2_init 9 = .ok (.putfield 9, 3) := by decide +kernel
theorem dX2_init_12 : decode cX2_init 12 = .ok (.aload_n 0, 1) := by decide +kernel
theorem dX2_init_13 : decode cX2_init 13 = .ok (.bipush 6, 2) := by decide +kernel
theorem dX2_init_15 : decode cX2_init 15 = .ok (.newarray .int, 2) := by decide +kernel
theorem dX2_init_17 : decode cX2_init 17 = .ok (.putfield 15, 3) := by decide +kernel
theorem dX2_init_20 : decode cX2_init 20 = .ok (.aload_n 0, 1) := by decide +kernel
theorem dX2_init_21 : decode cX2_init 21 = .ok (.bipush 6, 2) := by decide +kernel
theorem dX2_init_23 : decode cX2_init 23 = .ok (.newarray .int, 2) := by decide +kernel
theorem dX2_init_25 : decode cX2_init 25 = .ok (.putfield 18, 3) := by decide +kernel
theorem dX2_init_28 : decode cX2_init 28 = .ok (.aload_n 0, 1) := by decide +kernel
theorem dX2_init_29 : decode cX2_init 29 = .ok (.bipush 6, 2) := by decide +kernel
theorem dX2_init_31 : decode cX2_init 31 = .ok (.newarray .int, 2) := by decide +kernel
theorem dX2_init_33 : decode cX2_init 33 = .ok (.putfield 21, 3) := by decide +kernel
theorem dX2_init_36 : decode cX2_init 36 = .ok (.aload_n 0, 1) := by decide +kernel
theorem dX2_init_37 : decode cX2_init 37 = .ok (.bipush 6, 2) := by decide +kernel
theorem dX2_init_39 : decode cX2_init 39 = .ok (.newarray .int, 2) := by decide +kernel
theorem dX2_init_41 : decode cX2_init 41 = .ok (.putfield 24, 3) := by decide +kernel
theorem dX2_init_44 : decode cX2_init 44 = .ok (.aload_n 0, 1) := by decide +kernel
theorem dX2_init_45 : decode cX2_init 45 = .ok (.bipush 6, 2) := by decide +kernel
theorem dX2_init_47 : decode cX2_init 47 = .ok (.newarray .boolean, 2) := by decide +kernel
theorem dX2_init_49 : decode cX2_init 49 = .ok (.putfield 27, 3) := by decide +kernel
theorem dX2_init_52 : decode cX2_init 52 = .ok (.aload_n 0, 1) := by decide +kernel
theorem dX2_init_53 : decode cX2_init 53 = .ok (.bipush 6, 2) := by decide +kernel
theorem dX2_init_55 : decode cX2_init 55 = .ok (.iconst 4, 1) := by decide +kernel
theorem dX2_init_56 : decode cX2_init 56 = .ok (.multianewarray 31 2, 4) := by decide +kernel
theorem dX2_init_60 : decode cX2_init 60 = .ok (.putfield 33, 3) := by decide +kernel
theorem dX2_init_63 : decode cX2_init 63 = .ok (.aload_n 0, 1) := by decide +kernel
theorem dX2_init_64 : decode cX2_init 64 = .ok (.sipush 500, 3) := by decide +kernel
theorem dX2_init_67 : decode cX2_init 67 = .ok (.putfield 36, 3) := by decide +kernel
theorem dX2_init_70 : decode cX2_init 70 = .ok (.aload_n 0, 1) := by decide +kernel
theorem dX2_init_71 : decode cX2_init 71 = .ok (.iconst (-1), 1) := by decide +kernel
theorem dX2_init_72 : decode cX2_init 72 = .ok (.putfield 40, 3) := by decide +kernel
theorem dX2_init_75 : decode cX2_init 75 = .ok (.return_, 1) := by decide +kernel
theorem sd201_0 (F : zFx p l R s m args meth c D cid kv N0 xs Ls RX2 cX2_init 1 n0 z0 nF zE d) (IH : zAllM l D cid kv N0 xs Ls d) (hQ : ∀ v h, Qq v h → v = r0 ∧ h = hF) (hn : nF = zN hF) (hz : zE = zZ hF) (hlocks : meth.locks = false) (hr : meth.sig.returnType = none) (hin : meth.name = "<init>") : zSoL p l e R s m args below meth c D cid kv N0 xs Ls 1 (MQ below (zQc D cid kv N0 xs Ls ρ0 r0 hF) args s (nF - n0) (zE - z0) (zA N0)) ρ0 n0 z0 nF zE Qq (zCall d) zt201_0 := zc_so (si_aload_n F dX2_init_0 rfl)
  (zc_so (si_oinit F tb_30 tb_23 tb_24 dX2_init_1)
  (zc_so (si_aload_n F dX2_init_4 rfl)
  (zc_so (si_bipush F dX2_init_5 rfl)
  (zc_so (so_naI (ty := .int) (atype := .int) F.1 F.2.1 (by decide) (by decide) rfl rfl (fun C h => by cases h) (by decide) rfl (F.1.2.2.2.2 _ tb_82) F.2.2.2.2.1 F.2.2.1 F.2.2.2.1 dX2_init_7)
  (zc_so (si_putRF (k := 0) F rfl inT2 (by decide) (by decide) rfl rfl rfl (fun o => by cases o <;> exact ⟨rfl, rfl⟩) rfl hin rfl tyX2_ok nmX2 tb_33 dX2_init_9)
  (zc_so (si_aload_n F dX2_init_12 rfl)
  (zc_so (si_bipush F dX2_init_13 rfl)
  (zc_so (so_naI (ty := .int) (atype := .int) F.1 F.2.1 (by decide) (by decide) rfl rfl (fun C h => by cases h) (by decide) rfl (F.1.2.2.2.2 _ tb_82) F.2.2.2.2.1 F.2.2.1 F.2.2.2.1 dX2_init_15)
  (zc_so (si_putRF (k := 1) F rfl inT2 (by decide) (by decide) rfl rfl rfl (fun o => by cases o <;> exact ⟨rfl, rfl⟩) rfl hin rfl tyX2_ok nmX2 tb_35 dX2_init_17)
  (zc_so (si_aload_n F dX2_init_20 rfl)
  (zc_so (si_bipush F dX2_init_21 rfl)
  (zc_so (so_naI (ty := .int) (atype := .int) F.1 F.2.1 (by decide) (by decide) rfl rfl (fun C h => by cases h) (by decide) rfl (F.1.2.2.2.2 _ tb_82) F.2.2.2.2.1 F.2.2.1 F.2.2.2.1 dX2_init_23)
  (zc_so (si_putRF (k := 2) F rfl inT2 (by decide) (by decide) rfl rfl rfl (fun o => by cases o <;> exact ⟨rfl, rfl⟩) rfl hin rfl tyX2_ok nmX2 tb_37 dX2_init_25)
  (zc_so (si_aload_n F dX2_init_28 rfl)
  (zc_so (si_bipush F dX2_init_29 rfl)
  (zc_so (so_naI (ty := .int) (atype := .int) F.1 F.2.1 (by decide) (by decide) rfl rfl (fun C h => by cases h) (by decide) rfl (F.1.2.2.2.2 _ tb_82) F.2.2.2.2.1 F.2.2.1 F.2.2.2.1 dX2_init_31)
  (zc_so (si_putRF (k := 3) F rfl inT2 (by decide) (by decide) rfl rfl rfl (fun o => by cases o <;> exact ⟨rfl, rfl⟩) rfl hin rfl tyX2_ok nmX2 tb_39 dX2_init_33)
  (zc_so (si_aload_n F dX2_init_36 rfl)
  (zc_so (si_bipush F dX2_init_37 rfl)
  (zc_so (so_naI (ty := .int) (atype := .int) F.1 F.2.1 (by decide) (by decide) rfl rfl (fun C h => by cases h) (by decide) rfl (F.1.2.2.2.2 _ tb_82) F.2.2.2.2.1 F.2.2.1 F.2.2.2.1 dX2_init_39)
  (zc_so (si_putRF (k := 4) F rfl inT2 (by decide) (by decide) rfl rfl rfl (fun o => by cases o <;> exact ⟨rfl, rfl⟩) rfl hin rfl tyX2_ok nmX2 tb_41 dX2_init_41)
  (zc_so (si_aload_n F dX2_init_44 rfl)
  (zc_so (si_bipush F dX2_init_45 rfl)
  (zc_so (so_naI (ty := .boolean) (atype := .boolean) F.1 F.2.1 (by decide) (by decide) rfl rfl (fun C h => by cases h) (by decide) rfl (F.1.2.2.2.2 _ tb_83) F.2.2.2.2.1 F.2.2.1 F.2.2.2.1 dX2_init_47)
  (zc_so (si_putRF (k := 5) F rfl inT2 (by decide) (by decide) rfl rfl rfl (fun o => by cases o <;> exact ⟨rfl, rfl⟩) rfl hin rfl tyX2_ok nmX2 tb_43 dX2_init_49)
  (zc_so (si_aload_n F dX2_init_52 rfl)
  (zc_so (si_bipush F dX2_init_53 rfl)
  (zc_so (si_iconst F dX2_init_55 rfl)
  (zc_so (si_mna F dX2_init_56 (F.1.2.2.2.2 _ tb_31) (F.1.2.2.2.2 _ tb_82))
  (zc_so (si_putRF (k := 6) F rfl inT2 (by decide) (by decide) rfl rfl rfl (fun o => by cases o <;> exact ⟨rfl, rfl⟩) rfl hin rfl tyX2_ok nmX2 tb_45 dX2_init_60)
  (zc_so (si_aload_n F dX2_init_63 rfl)
  (zc_nil))))))))))))))))))))))))))))))))
theorem sd201_1 (F : zFx p l R s m args meth c D cid kv N0 xs Ls RX2 cX2_init 1 n0 z0 nF zE d) (IH : zAllM l D cid kv N0 xs Ls d) (hQ : ∀ v h, Qq v h → v = r0 ∧ h = hF) (hn : nF = zN hF) (hz : zE = zZ hF) (hlocks : meth.locks = false) (hr : meth.sig.returnType = none) (hin : meth.name = "<init>") : zSoL p l e R s m args below meth c D cid kv N0 xs Ls 1 (MQ below (zQc D cid kv N0 xs Ls ρ0 r0 hF) args s (nF - n0) (zE - z0) (zA N0)) ρ0 n0 z0 nF zE Qq (zCall d) zt201_1 := zc_so (si_sipush F dX2_init_64 rfl)
  (zc_so (si_putI (k := 8) F rfl inT2 (by decide) (by decide) rfl rfl rfl rfl tyX2_ok nmX2 tb_49 dX2_init_67)
  (zc_so (si_aload_n F dX2_init_70 rfl)
  (zc_so (si_iconst F dX2_init_71 rfl)
  (zc_so (si_putI (k := 11) F rfl inT2 (by decide) (by decide) rfl rfl rfl rfl tyX2_ok nmX2 tb_55 dX2_init_72)
  (zc_so (si_rV F hQ hn hz hlocks hr dX2_init_75)
  (zc_nil))))))
theorem sd201 (F : zFx p l R s m args meth c D cid kv N0 xs Ls RX2 cX2_init 1 n0 z0 nF zE d) (IH : zAllM l D cid kv N0 xs Ls d) (hQ : ∀ v h, Qq v h → v = r0 ∧ h = hF) (hn : nF = zN hF) (hz : zE = zZ hF) (hlocks : meth.locks = false) (hr : meth.sig.returnType = none) (hin : meth.name = "<init>") (pc : Nat) : zSo p l e R s m args below meth c D cid kv N0 xs Ls 1 (MQ below (zQc D cid kv N0 xs Ls ρ0 r0 hF) args s (nF - n0) (zE - z0) (zA N0)) ρ0 n0 z0 nF zE Qq (zCall d) pc (zTab 201 pc) := zc_tab [zt201_0, zt201_1] (zc_cons (sd201_0 F IH hQ hn hz hlocks hr hin) (zc_cons (sd201_1 F IH hQ hn hz hlocks hr hin) zc_end))
theorem dX2_copy_0 : decode cX2_copy 0 = .ok (.aload_n 0, 1) := by decide +kernel
theorem dX2_copy_1 : decode cX2_copy 1 = .ok (.aload_n 1, 1) := by decide +kernel
theorem dX2_copy_2 : decode cX2_copy 2 = .ok (.getfield 43, 3) := by decide +kernel
theorem dX2_copy_5 : decode cX2_copy 5 = .ok (.putfield 43, 3) := by decide +kernel
theorem dX2_copy_8 : decode cX2_copy 8 = .ok (.aload_n 0, 1) := by decide +kernel
theorem dX2_copy_9 : decode cX2_copy 9 = .ok (.aload_n 1, 1) := by decide +kernel
theorem dX2_copy_10 : decode cX2_copy 10 = .ok (.getfield 36, 3) := by decide +kernel
theorem dX2_copy_13 : decode cX2_copy 13 = .ok (.putfield 36, 3) := by decide +kernel
theorem dX2_copy_16 : decode cX2_copy 16 = .ok (.aload_n 0, 1) := by decide +kernel
theorem dX2_copy_17 : decode cX2_copy 17 = .ok (.aload_n 1, 1) := by decide +kernel
theorem dX2_copy_18 : decode cX2_copy 18 = .ok (.getfield 46, 3) := by decide +kernel
theorem dX2_copy_21 : decode cX2_copy 21 = .ok (.putfield 46, 3) := by decide +kernel
theorem dX2_copy_24 : decode cX2_copy 24 = .ok (.aload_n 0, 1) := by decide +kernel
theorem dX2_copy_25 : decode cX2_copy 25 = .ok (.aload_n 1, 1) := by decide +kernel
theorem dX2_copy_26 : decode cX2_copy 26 = .ok (.getfield 49, 3) := by decide +kernel
theorem dX2_copy_29 : decode cX2_copy 29 = .ok (.putfield 49, 3) := by decide +kernel
theorem dX2_copy_32 : decode cX2_copy 32 = .ok (.aload_n 0, 1) := by decide +kernel
theorem dX2_copy_33 : decode cX2_copy 33 = .ok (.aload_n 1, 1) := by decide +kernel
theorem dX2_copy_34 : decode cX2_copy 34 = .ok (.getfield 40, 3) := by decide +kernel
theorem dX2_copy_37 : decode cX2_copy 37 = .ok (.putfield 40, 3) := by decide +kernel
theorem dX2_copy_40 : decode cX2_copy 40 = .ok (.iconst 0, 1) := by decide +kernel
theorem dX2_copy_41 : decode cX2_copy 41 = .ok (.istore_n 2, 1) := by decide +kernel
theorem dX2_copy_42 : decode cX2_copy 42 = .ok (.iload_n 2, 1) := by decide +kernel
theorem dX2_copy_43 : decode cX2_copy 43 = .ok (.aload_n 0, 1) := by decide +kernel
theorem dX2_copy_44 : decode cX2_copy 44 = .ok (.getfield 43, 3) := by decide +kernel
theorem dX2_copy_47 : decode cX2_copy 47 = .ok (.if_icmp .ge 110, 3) := by decide +kernel
theorem dX2_copy_50 : decode cX2_copy 50 = .ok (.aload_n 0, 1) := by decide +kernel
theorem dX2_copy_51 : decode cX2_copy 51 = .ok (.getfield 9, 3) := by decide +kernel
theorem dX2_copy_54 : decode cX2_copy 54 = .ok (.iload_n 2, 1) := by decide +kernel
theorem dX2_copy_55 : decode cX2_copy 55 = .ok (.aload_n 1, 1) := by decide +kernel
theorem dX2_copy_56 : decode cX2_copy 56 = .ok (.getfield 9, 3) := by decide +kernel
theorem dX2_copy_59 : decode cX2_copy 59 = .ok (.iload_n 2, 1) := by decide +kernel
theorem dX2_copy_60 : decode cX2_copy 60 = .ok (.iaload, 1) := by decide +kernel
theorem dX2_copy_61 : decode cX2_copy 61 = .ok (.iastore, 1) := by decide +kernel
theorem dX2_copy_62 : decode cX2_copy 62 = .ok (.aload_n 0, 1) := by decide +kernel
theorem dX2_copy_63 : decode cX2_copy 63 = .ok (.getfield 15, 3) := by decide +kernel
theorem dX2_copy_66 : decode cX2_copy 66 = .ok (.iload_n 2, 1) := by decide +kernel
theorem dX2_copy_67 : decode cX2_copy 67 = .ok (.aload_n 1, 1) := by decide +kernel
theorem dX2_copy_68 : decode cX2_copy 68 = .ok (.getfield 15, 3) := by decide +kernel
theorem dX2_copy_71 : decode cX2_copy 71 = .ok (.iload_n 2, 1) := by decide +kernel
theorem dX2_copy_72 : decode cX2_copy 72 = .ok (.iaload, 1) := by decide +kernel
theorem dX2_copy_73 : decode cX2_copy 73 = .ok (.iastore, 1) := by decide +kernel
theorem dX2_copy_74 : decode cX2_copy 74 = .ok (.aload_n 0, 1) := by decide +kernel
theorem dX2_copy_75 : decode cX2_copy 75 = .ok (.getfield 18, 3) := by decide +kernel
theorem dX2_copy_78 : decode cX2_copy 78 = .ok (.iload_n 2, 1) := by decide +kernel
theorem dX2_copy_79 : decode cX2_copy 79 = .ok (.aload_n 1, 1) := by decide +kernel
theorem dX2_copy_80 : decode cX2_copy 80 = .ok (.getfield 18, 3) := by decide +kernel
theorem dX2_copy_83 : decode cX2_copy 83 = .ok (.iload_n 2, 1) := by decide +kernel
theorem dX2_copy_84 : decode cX2_copy 84 = .ok (.iaload, 1) := by decide +kernel
theorem dX2_copy_85 : decode cX2_copy 85 = .ok (.iastore, 1) := by decide +kernel
theorem dX2_copy_86 : decode cX2_copy 86 = .ok (.aload_n 0, 1) := by decide +kernel
theorem dX2_copy_87 : decode cX2_copy 87 = .ok (.getfield 21, 3) := by decide +kernel
theorem dX2_copy_90 : decode cX2_copy 90 = .ok (.iload_n 2, 1) := by decide +kernel
theorem dX2_copy_91 : decode cX2_copy 91 = .ok (.aload_n 1, 1) := by decide +kernel
theorem dX2_copy_92 : decode cX2_copy 92 = .ok (.getfield 21, 3) := by decide +kernel
theorem dX2_copy_95 : decode cX2_copy 95 = .ok (.iload_n 2, 1) := by decide +kernel
theorem dX2_copy_96 : decode cX2_copy 96 = .ok (.iaload, 1) := by decide +kernel
theorem dX2_copy_97 : decode cX2_copy 97 = .ok (.iastore, 1) := by decide +kernel
theorem dX2_copy_98 : decode cX2_copy 98 = .ok (.aload_n 0, 1) := by decide +kernel
theorem dX2_copy_99 : decode cX2_copy 99 = .ok (.getfield 24, 3) := by decide +kernel
theorem dX2_copy_102 : decode cX2_copy 102 = .ok (.iload_n 2, 1) := by decide +kernel
theorem dX2_copy_103 : decode cX2_copy 103 = .ok (.aload_n 1, 1) := by decide +kernel
theorem dX2_copy_104 : decode cX2_copy 104 = .ok (.getfield 24, 3) := by decide +kernel
theorem dX2_copy_107 : decode cX2_copy 107 = .ok (.iload_n 2, 1) := by decide +kernel
theorem dX2_copy_108 : decode cX2_copy 108 = .ok (.iaload, 1) := by decide +kernel
theorem dX2_copy_109 : decode cX2_copy 109 = .ok (.iastore, 1) := by decide +kernel
theorem dX2_copy_110 : decode cX2_copy 110 = .ok (.aload_n 0, 1) := by decide +kernel
theorem dX2_copy_111 : decode cX2_copy 111 = .ok (.getfield 27, 3) := by decide +kernel
theorem dX2_copy_114 : decode cX2_copy 114 = .ok (.iload_n 2, 1) := by decide +kernel
theorem dX2_copy_115 : decode cX2_copy 115 = .ok (.aload_n 1, 1) := by decide +kernel
theorem dX2_copy_116 : decode cX2_copy 116 = .ok (.getfield 27, 3) := by decide +kernel
theorem dX2_copy_119 : decode cX2_copy 119 = .ok (.iload_n 2, 1) := by decide +kernel
theorem dX2_copy_120 : decode cX2_copy 120 = .ok (.baload, 1) := by decide +kernel
theorem dX2_copy_121 : decode cX2_copy 121 = .ok (.bastore, 1) := by decide +kernel
theorem dX2_copy_122 : decode cX2_copy 122 = .ok (.iconst 0, 1) := by decide +kernel
theorem dX2_copy_123 : decode cX2_copy 123 = .ok (.istore_n 3, 1) := by decide +kernel
theorem dX2_copy_124 : decode cX2_copy 124 = .ok (.iload_n 3, 1) := by decide +kernel
theorem dX2_copy_125 : decode cX2_copy 125 = .ok (.iconst 4, 1) := by decide +kernel
theorem dX2_copy_126 : decode cX2_copy 126 = .ok (.if_icmp .ge 25, 3) := by decide +kernel
theorem dX2_copy_129 : decode cX2_copy 129 = .ok (.aload_n 0, 1) := by decide +kernel
theorem dX2_copy_130 : decode cX2_copy 130 = .ok (.getfield 33, 3) := by decide +kernel
theorem dX2_copy_133 : decode cX2_copy 133 = .ok (.iload_n 2, 1) := by decide +kernel
theorem dX2_copy_134 : decode cX2_copy 134 = .ok (.aaload, 1) := by decide +kernel
theorem dX2_copy_135 : decode cX2_copy 135 = .ok (.iload_n 3, 1) := by decide +kernel
theorem dX2_copy_136 : decode cX2_copy 136 = .ok (.aload_n 1, 1) := by decide +kernel
theorem dX2_copy_137 : decode cX2_copy 137 = .ok (.getfield 33, 3) := by decide +kernel
theorem dX2_copy_140 : decode cX2_copy 140 = .ok (.iload_n 2, 1) := by decide +kernel
theorem dX2_copy_141 : decode cX2_copy 141 = .ok (.aaload, 1) := by decide +kernel
theorem dX2_copy_142 : decode cX2_copy 142 = .ok (.iload_n 3, 1) := by decide +kernel
theorem dX2_copy_143 : decode cX2_copy 143 = .ok (.iaload, 1) := by decide +kernel
theorem dX2_copy_144 : decode cX2_copy 144 = .ok (.iastore, 1) := by decide +kernel
theorem dX2_copy_145 : decode cX2_copy 145 = .ok (.iinc 3 1, 3) := by decide +kernel
theorem dX2_copy_148 : decode cX2_copy 148 = .ok (.goto (-24), 3) := by decide +kernel
theorem dX2_copy_151 : decode cX2_copy 151 = .ok (.iinc 2 1, 3) := by decide +kernel
theorem dX2_copy_154 : decode cX2_copy 154 = .ok (.goto (-112), 3) := by decide +kernel
theorem dX2_copy_157 : decode cX2_copy 157 = .ok (.return_, 1) := by decide +kernel
theorem sd202_0 (F : zFx p l R s m args meth c D cid kv N0 xs Ls RX2 cX2_copy 4 n0 z0 nF zE d) (IH : zAllM l D cid kv N0 xs Ls d) (hQ : ∀ v h, Qq v h → v = r0 ∧ h = hF) (hn : nF = zN hF) (hz : zE = zZ hF) (hlocks : meth.locks = false) (hr : meth.sig.returnType = none) : zSoL p l e R s m args below meth c D cid kv N0 xs Ls 4 (MQ below (zQc D cid kv N0 xs Ls ρ0 r0 hF) args s (nF - n0) (zE - z0) (zA N0)) ρ0 n0 z0 nF zE Qq (zCall d) zt202_0 := zc_so (si_aload_n F dX2_copy_0 rfl)
  (zc_so (si_aload_n F dX2_copy_1 rfl)
  (zc_so (si_getI (k := 7) F rfl inT2 (by decide) (by decide) rfl rfl tb_47 dX2_copy_2)
  (zc_so (si_putI (k := 7) F rfl inT2 (by decide) (by decide) rfl rfl rfl rfl tyX2_ok nmX2 tb_47 dX2_copy_5)
  (zc_so (si_aload_n F dX2_copy_8 rfl)
  (zc_so (si_aload_n F dX2_copy_9 rfl)
  (zc_so (si_getI (k := 8) F rfl inT2 (by decide) (by decide) rfl rfl tb_49 dX2_copy_10)
  (zc_so (si_putI (k := 8) F rfl inT2 (by decide) (by decide) rfl rfl rfl rfl tyX2_ok nmX2 tb_49 dX2_copy_13)
  (zc_so (si_aload_n F dX2_copy_16 rfl)
  (zc_so (si_aload_n F dX2_copy_17 rfl)
  (zc_so (si_getI (k := 9) F rfl inT2 (by decide) (by decide) rfl rfl tb_51 dX2_copy_18)
  (zc_so (si_putI (k := 9) F rfl inT2 (by decide) (by decide) rfl rfl rfl rfl tyX2_ok nmX2 tb_51 dX2_copy_21)
  (zc_so (si_aload_n F dX2_copy_24 rfl)
  (zc_so (si_aload_n F dX2_copy_25 rfl)
  (zc_so (si_getR (k := 10) F rfl inT2 (by decide) (by decide) rfl rfl tb_53 dX2_copy_26)
  (zc_so (si_putR (k := 10) F rfl inT2 (by decide) (by decide) rfl rfl rfl (fun o => by cases o <;> exact ⟨rfl, rfl⟩) rfl tyX2_ok nmX2 tb_53 dX2_copy_29)
  (zc_so (si_aload_n F dX2_copy_32 rfl)
  (zc_so (si_aload_n F dX2_copy_33 rfl)
  (zc_so (si_getI (k := 11) F rfl inT2 (by decide) (by decide) rfl rfl tb_55 dX2_copy_34)
  (zc_so (si_putI (k := 11) F rfl inT2 (by decide) (by decide) rfl rfl rfl rfl tyX2_ok nmX2 tb_55 dX2_copy_37)
  (zc_so (si_iconst F dX2_copy_40 rfl)
  (zc_so (si_istore_n F dX2_copy_41 rfl)
  (zc_so (si_iload_n F dX2_copy_42 rfl)
  (zc_so (si_aload_n F dX2_copy_43 rfl)
  (zc_so (si_getI (k := 7) F rfl inT2 (by decide) (by decide) rfl rfl tb_47 dX2_copy_44)
  (zc_so (si_icge F dX2_copy_47 rfl)
  (zc_so (si_aload_n F dX2_copy_50 rfl)
  (zc_so (si_getR (k := 0) F rfl inT2 (by decide) (by decide) rfl rfl tb_33 dX2_copy_51)
  (zc_so (si_iload_n F dX2_copy_54 rfl)
  (zc_so (si_aload_n F dX2_copy_55 rfl)
  (zc_so (si_getR (k := 0) F rfl inT2 (by decide) (by decide) rfl rfl tb_33 dX2_copy_56)
  (zc_so (si_iload_n F dX2_copy_59 rfl)
  (zc_so (si_iaload F dX2_copy_60)
  (zc_so (si_iastore F dX2_copy_61)
  (zc_so (si_aload_n F dX2_copy_62 rfl)
  (zc_so (si_getR (k := 1) F rfl inT2 (by decide) (by decide) rfl rfl tb_35 dX2_copy_63)
  (zc_nil))))))))))))))))))))))))))))))))))))
theorem sd202_1 (F : zFx p l R s m args meth c D cid kv N0 xs Ls RX2 cX2_copy 4 n0 z0 nF zE d) (IH : zAllM l D cid kv N0 xs Ls d) (hQ : ∀ v h, Qq v h → v = r0 ∧ h = hF) (hn : nF = zN hF) (hz : zE = zZ hF) (hlocks : meth.locks = false) (hr : meth.sig.returnType = none) : zSoL p l e R s m args below meth c D cid kv N0 xs Ls 4 (MQ below (zQc D cid kv N0 xs Ls ρ0 r0 hF) args s (nF - n0) (zE - z0) (zA N0)) ρ0 n0 z0 nF zE Qq (zCall d) zt202_1 := zc_so (si_iload_n F dX2_copy_66 rfl)
  (zc_so (si_aload_n F dX2_copy_67 rfl)
  (zc_so (si_getR (k := 1) F rfl inT2 (by decide) (by decide) rfl rfl tb_35 dX2_copy_68)
  (zc_so (si_iload_n F dX2_copy_71 rfl)
  (zc_so (si_iaload F dX2_copy_72)
  (zc_so (si_iastore F dX2_copy_73)
  (zc_so (si_aload_n F dX2_copy_74 rfl)
  (zc_so (si_getR (k := 2) F rfl inT2 (by decide) (by decide) rfl rfl tb_37 dX2_copy_75)
  (zc_so (si_iload_n F dX2_copy_78 rfl)
  (zc_so (si_aload_n F dX2_copy_79 rfl)
  (zc_so (si_getR (k := 2) F rfl inT2 (by decide) (by decide) rfl rfl tb_37 dX2_copy_80)
  (zc_so (si_iload_n F dX2_copy_83 rfl)
  (zc_so (si_iaload F dX2_copy_84)
  (zc_so (si_iastore F dX2_copy_85)
  (zc_so (si_aload_n F dX2_copy_86 rfl)
  (zc_so (si_getR (k := 3) F rfl inT2 (by decide) (by decide) rfl rfl tb_39 dX2_copy_87)
  (zc_so (si_iload_n F dX2_copy_90 rfl)
  (zc_so (si_aload_n F dX2_copy_91 rfl)
  (zc_so (si_getR (k := 3) F rfl inT2 (by decide) (by decide) rfl rfl tb_39 dX2_copy_92)
  (zc_so (si_iload_n F dX2_copy_95 rfl)
  (zc_so (si_iaload F dX2_copy_96)
  (zc_so (si_iastore F dX2_copy_97)
  (zc_so (si_aload_n F dX2_copy_98 rfl)
  (zc_so (si_getR (k := 4) F rfl inT2 (by decide) (by decide) rfl rfl tb_41 dX2_copy_99)
  (zc_so (si_iload_n F dX2_copy_102 rfl)
  (zc_so (si_aload_n F dX2_copy_103 rfl)
  (zc_so (si_getR (k := 4) F rfl inT2 (by decide) (by decide) rfl rfl tb_41 dX2_copy_104)
  (zc_so (si_iload_n F dX2_copy_107 rfl)
  (zc_so (si_iaload F dX2_copy_108)
  (zc_so (si_iastore F dX2_copy_109)
  (zc_so (si_aload_n F dX2_copy_110 rfl)
  (zc_so (si_getR (k := 5) F rfl inT2 (by decide) (by decide) rfl rfl tb_43 dX2_copy_111)
  (zc_so (si_iload_n F dX2_copy_114 rfl)
  (zc_so (si_aload_n F dX2_copy_115 rfl)
  (zc_so (si_getR (k := 5) F rfl inT2 (by decide) (by decide) rfl rfl tb_43 dX2_copy_116)
  (zc_so (si_iload_n F dX2_copy_119 rfl)
  (zc_so (si_baloadZ F dX2_copy_120)
  (zc_so (si_bastoreZ F dX2_copy_121)
  (zc_so (si_iconst F dX2_copy_122 rfl)
  (zc_so (si_istore_n F dX2_copy_123 rfl)
  (zc_so (si_iload_n F dX2_copy_124 rfl)
  (zc_so (si_iconst F dX2_copy_125 rfl)
  (zc_so (si_icge F dX2_copy_126 rfl)
  (zc_nil)))))))))))))))))))))))))))))))))))))))))))
theorem sd202_2 (F : zFx p l R s m args meth c D cid kv N0 xs Ls RX2 cX2_copy 4 n0 z0 nF zE d) (IH : zAllM l D cid kv N0 xs Ls d) (hQ : ∀ v h, Qq v h → v = r0 ∧ h = hF) (hn : nF = zN hF) (hz : zE = zZ hF) (hlocks : meth.locks = false) (hr : meth.sig.returnType = none) : zSoL p l e R s m args below meth c D cid kv N0 xs Ls 4 (MQ below (zQc D cid kv N0 xs Ls ρ0 r0 hF) args s (nF - n0) (zE - z0) (zA N0)) ρ0 n0 z0 nF zE Qq (zCall d) zt202_2 := zc_so (si_aload_n F dX2_copy_129 rfl)
  (zc_so (si_getR (k := 6) F rfl inT2 (by decide) (by decide) rfl rfl tb_45 dX2_copy_130)
  (zc_so (si_iload_n F dX2_copy_133 rfl)
  (zc_so (si_aaloadI F dX2_copy_134)
  (zc_so (si_iload_n F dX2_copy_135 rfl)
  (zc_so (si_aload_n F dX2_copy_136 rfl)
  (zc_so (si_getR (k := 6) F rfl inT2 (by decide) (by decide) rfl rfl tb_45 dX2_copy_137)
  (zc_so (si_iload_n F dX2_copy_140 rfl)
  (zc_so (si_aaloadI F dX2_copy_141)
  (zc_so (si_iload_n F dX2_copy_142 rfl)
  (zc_so (si_iaload F dX2_copy_143)
  (zc_so (si_iastore F dX2_copy_144)
  (zc_so (si_iinc F dX2_copy_145 rfl)
  (zc_so (si_goto F dX2_copy_148 rfl)
  (zc_so (si_iinc F dX2_copy_151 rfl)
  (zc_so (si_goto F dX2_copy_154 rfl)
  (zc_so (si_rV F hQ hn hz hlocks hr dX2_copy_157)
  (zc_nil)))))))))))))))))
theorem sd202 (F : zFx p l R s m args meth c D cid kv N0 xs Ls RX2 cX2_copy 4 n0 z0 nF zE d) (IH : zAllM l D cid kv N0 xs Ls d) (hQ : ∀ v h, Qq v h → v = r0 ∧ h = hF) (hn : nF = zN hF) (hz : zE = zZ hF) (hlocks : meth.locks = false) (hr : meth.sig.returnType = none) (pc : Nat) : zSo p l e R s m args below meth c D cid kv N0 xs Ls 4 (MQ below (zQc D cid kv N0 xs Ls ρ0 r0 hF) args s (nF - n0) (zE - z0) (zA N0)) ρ0 n0 z0 nF zE Qq (zCall d) pc (zTab 202 pc) := zc_tab [zt202_0, zt202_1, zt202_2] (zc_cons (sd202_0 F IH hQ hn hz hlocks hr) (zc_cons (sd202_1 F IH hQ hn hz hlocks hr) (zc_cons (sd202_2 F IH hQ hn hz hlocks hr) zc_end)))
theorem dX2_welcome_0 : decode cX2_welcome 0 = .ok (.aload_n 0, 1) := by decide +kernel
theorem dX2_welcome_1 : decode cX2_welcome 1 = .ok (.getfield 43, 3) := by decide +kernel
theorem dX2_welcome_4 : decode cX2_welcome 4 = .ok (.istore 5, 2) := by decide +kernel
theorem dX2_welcome_6 : decode cX2_welcome 6 = .ok (.iload 5, 2) := by decide +kernel
theorem dX2_welcome_8 : decode cX2_welcome 8 = .ok (.bipush 6, 2) := by decide +kernel
theorem dX2_welcome_10 : decode cX2_welcome 10 = .ok (.if_icmp .lt 6, 3) := by decide +kernel
theorem dX2_welcome_13 : decode cX2_welcome 13 = .ok (.bipush (-4), 2) := by decide +kernel
theorem dX2_welcome_15 : decode cX2_welcome 15 = .ok (.ireturn, 1) := by decide +kernel
theorem dX2_welcome_16 : decode cX2_welcome 16 = .ok (.aload_n 0, 1) := by decide +kernel
theorem dX2_welcome_17 : decode cX2_welcome 17 = .ok (.dup, 1) := by decide +kernel
theorem dX2_welcome_18 : decode cX2_welcome 18 = .ok (.getfield 43, 3) := by decide +kernel
theorem dX2_welcome_21 : decode cX2_welcome 21 = .ok (.iconst 1, 1) := by decide +kernel
theorem dX2_welcome_22 : decode cX2_welcome 22 = .ok (.iadd, 1) := by decide +kernel
theorem dX2_welcome_23 : decode cX2_welcome 23 = .ok (.putfield 43, 3) := by decide +kernel
theorem dX2_welcome_26 : decode cX2_welcome 26 = .ok (.aload_n 0, 1) := by decide +kernel
theorem dX2_welcome_27 : decode cX2_welcome 27 = .ok (.getfield 9, 3) := by decide +kernel
theorem dX2_welcome_30 : decode cX2_welcome 30 = .ok (.iload 5, 2) := by decide +kernel
theorem dX2_welcome_32 : decode cX2_welcome 32 = .ok (.iload_n 1, 1) := by decide +kernel
theorem dX2_welcome_33 : decode cX2_welcome 33 = .ok (.iastore, 1) := by decide +kernel
theorem dX2_welcome_34 : decode cX2_welcome 34 = .ok (.aload_n 0, 1) := by decide +kernel
theorem dX2_welcome_35 : decode cX2_welcome 35 = .ok (.getfield 15, 3) := by decide +kernel
theorem dX2_welcome_38 : decode cX2_welcome 38 = .ok (.iload 5, 2) := by decide +kernel
theorem dX2_welcome_40 : decode cX2_welcome 40 = .ok (.iload_n 2, 1) := by decide +kernel
theorem dX2_welcome_41 : decode cX2_welcome 41 = .ok (.iastore, 1) := by decide +kernel
theorem dX2_welcome_42 : decode cX2_welcome 42 = .ok (.aload_n 0, 1) := by decide +kernel
theorem dX2_welcome_43 : decode cX2_welcome 43 = .ok (.getfield 18, 3) := by decide +kernel
theorem dX2_welcome_46 : decode cX2_welcome 46 = .ok (.iload 5, 2) := by decide +kernel
theorem dX2_welcome_48 : decode cX2_welcome 48 = .ok (.iload_n 3, 1) := by decide +kernel
theorem dX2_welcome_49 : decode cX2_welcome 49 = .ok (.iastore, 1) := by decide +kernel
theorem dX2_welcome_50 : decode cX2_welcome 50 = .ok (.aload_n 0, 1) := by decide +kernel
theorem dX2_welcome_51 : decode cX2_welcome 51 = .ok (.iload 5, 2) := by decide +kernel
theorem dX2_welcome_53 : decode cX2_welcome 53 = .ok (.iload 4, 2) := by decide +kernel
theorem dX2_welcome_55 : decode cX2_welcome 55 = .ok (.invokevirtual 53, 3) := by decide +kernel
theorem dX2_welcome_58 : decode cX2_welcome 58 = .ok (.aload_n 0, 1) := by decide +kernel
theorem dX2_welcome_59 : decode cX2_welcome 59 = .ok (.getfield 24, 3) := by decide +kernel
theorem dX2_welcome_62 : decode cX2_welcome 62 = .ok (.iload 5, 2) := by decide +kernel
theorem dX2_welcome_64 : decode cX2_welcome 64 = .ok (.iconst 0, 1) := by decide +kernel
theorem dX2_welcome_65 : decode cX2_welcome 65 = .ok (.iastore, 1) := by decide +kernel
theorem dX2_welcome_66 : decode cX2_welcome 66 = .ok (.iconst 0, 1) := by decide +kernel
theorem dX2_welcome_67 : decode cX2_welcome 67 = .ok (.istore 6, 2) := by decide +kernel
theorem dX2_welcome_69 : decode cX2_welcome 69 = .ok (.iload 6, 2) := by decide +kernel
theorem dX2_welcome_71 : decode cX2_welcome 71 = .ok (.iconst 4, 1) := by decide +kernel
theorem dX2_welcome_72 : decode cX2_welcome 72 = .ok (.if_icmp .ge 20, 3) := by decide +kernel
theorem dX2_welcome_75 : decode cX2_welcome 75 = .ok (.aload_n 0, 1) := by decide +kernel
theorem dX2_welcome_76 : decode cX2_welcome 76 = .ok (.getfield 33, 3) := by decide +kernel
theorem dX2_welcome_79 : decode cX2_welcome 79 = .ok (.iload 5, 2) := by decide +kernel
theorem dX2_welcome_81 : decode cX2_welcome 81 = .ok (.aaload, 1) := by decide +kernel
theorem dX2_welcome_82 : decode cX2_welcome 82 = .ok (.iload 6, 2) := by decide +kernel
theorem dX2_welcome_84 : decode cX2_welcome 84 = .ok (.iconst 0, 1) := by decide +kernel
theorem dX2_welcome_85 : decode cX2_welcome 85 = .ok (.iastore, 1) := by decide +kernel
theorem dX2_welcome_86 : decode cX2_welcome 86 = .ok (.iinc 6 1, 3) := by decide +kernel
theorem dX2_welcome_89 : decode cX2_welcome 89 = .ok (.goto (-20), 3) := by decide +kernel
theorem dX2_welcome_92 : decode cX2_welcome 92 = .ok (.iload 5, 2) := by decide +kernel
theorem dX2_welcome_94 : decode cX2_welcome 94 = .ok (.ireturn, 1) := by decide +kernel
theorem sd203_0 (F : zFx p l R s m args meth c D cid kv N0 xs Ls RX2 cX2_welcome 7 n0 z0 nF zE d) (IH : zAllM l D cid kv N0 xs Ls d) (hQ : ∀ v h, Qq v h → v = r0 ∧ h = hF) (hn : nF = zN hF) (hz : zE = zZ hF) (hlocks : meth.locks = false) (hr : meth.sig.returnType = (some .int)) : zSoL p l e R s m args below meth c D cid kv N0 xs Ls 7 (MQ below (zQc D cid kv N0 xs Ls ρ0 r0 hF) args s (nF - n0) (zE - z0) (zA N0)) ρ0 n0 z0 nF zE Qq (zCall d) zt203_0 := zc_so (si_aload_n F dX2_welcome_0 rfl)
  (zc_so (si_getI (k := 7) F rfl inT2 (by decide) (by decide) rfl rfl tb_47 dX2_welcome_1)
  (zc_so (si_istore F dX2_welcome_4)
  (zc_so (si_iload F dX2_welcome_6)
  (zc_so (si_bipush F dX2_welcome_8 rfl)
  (zc_so (si_iclt F dX2_welcome_10 rfl)
  (zc_so (si_bipush F dX2_welcome_13 rfl)
  (zc_so (si_rI F hQ hn hz hlocks hr (fun _ _ => rfl) dX2_welcome_15)
  (zc_so (si_aload_n F dX2_welcome_16 rfl)
  (zc_so (si_dup F dX2_welcome_17)
  (zc_so (si_getI (k := 7) F rfl inT2 (by decide) (by decide) rfl rfl tb_47 dX2_welcome_18)
  (zc_so (si_iconst F dX2_welcome_21 rfl)
  (zc_so (si_iadd F dX2_welcome_22)
  (zc_so (si_putI (k := 7) F rfl inT2 (by decide) (by decide) rfl rfl rfl rfl tyX2_ok nmX2 tb_47 dX2_welcome_23)
  (zc_so (si_aload_n F dX2_welcome_26 rfl)
  (zc_so (si_getR (k := 0) F rfl inT2 (by decide) (by decide) rfl rfl tb_33 dX2_welcome_27)
  (zc_so (si_iload F dX2_welcome_30)
  (zc_so (si_iload_n F dX2_welcome_32 rfl)
  (zc_so (si_iastore F dX2_welcome_33)
  (zc_so (si_aload_n F dX2_welcome_34 rfl)
  (zc_so (si_getR (k := 1) F rfl inT2 (by decide) (by decide) rfl rfl tb_35 dX2_welcome_35)
  (zc_so (si_iload F dX2_welcome_38)
  (zc_so (si_iload_n F dX2_welcome_40 rfl)
  (zc_so (si_iastore F dX2_welcome_41)
  (zc_so (si_aload_n F dX2_welcome_42 rfl)
  (zc_so (si_getR (k := 2) F rfl inT2 (by decide) (by decide) rfl rfl tb_37 dX2_welcome_43)
  (zc_so (si_iload F dX2_welcome_46)
  (zc_so (si_iload_n F dX2_welcome_48 rfl)
  (zc_so (si_iastore F dX2_welcome_49)
  (zc_so (si_aload_n F dX2_welcome_50 rfl)
  (zc_so (si_iload F dX2_welcome_51)
  (zc_so (si_iload F dX2_welcome_53)
  (zc_so (si_cV F (IH 204 mm204) mp204 (by decide) rfl rfl (by decide) tb_258 mi204 ms204 mn204 mc204 dX2_welcome_55)
  (zc_so (si_aload_n F dX2_welcome_58 rfl)
  (zc_so (si_getR (k := 4) F rfl inT2 (by decide) (by decide) rfl rfl tb_41 dX2_welcome_59)
  (zc_so (si_iload F dX2_welcome_62)
  (zc_nil))))))))))))))))))))))))))))))))))))
theorem sd203_1 (F : zFx p l R s m args meth c D cid kv N0 xs Ls RX2 cX2_welcome 7 n0 z0 nF zE d) (IH : zAllM l D cid kv N0 xs Ls d) (hQ : ∀ v h, Qq v h → v = r0 ∧ h = hF) (hn : nF = zN hF) (hz : zE = zZ hF) (hlocks : meth.locks = false) (hr : meth.sig.returnType = (some .int)) : zSoL p l e R s m args below meth c D cid kv N0 xs Ls 7 (MQ below (zQc D cid kv N0 xs Ls ρ0 r0 hF) args s (nF - n0) (zE - z0) (zA N0)) ρ0 n0 z0 nF zE Qq (zCall d) zt203_1 := zc_so (si_iconst F dX2_welcome_64 rfl)
  (zc_so (si_iastore F dX2_welcome_65)
  (zc_so (si_iconst F dX2_welcome_66 rfl)
  (zc_so (si_istore F dX2_welcome_67)
  (zc_so (si_iload F dX2_welcome_69)
  (zc_so (si_iconst F dX2_welcome_71 rfl)
  (zc_so (si_icge F dX2_welcome_72 rfl)
  (zc_so (si_aload_n F dX2_welcome_75 rfl)
  (zc_so (si_getR (k := 6) F rfl inT2 (by decide) (by decide) rfl rfl tb_45 dX2_welcome_76)
  (zc_so (si_iload F dX2_welcome_79)
  (zc_so (si_aaloadI F dX2_welcome_81)
  (zc_so (si_iload F dX2_welcome_82)
  (zc_so (si_iconst F dX2_welcome_84 rfl)
  (zc_so (si_iastore F dX2_welcome_85)
  (zc_so (si_iinc F dX2_welcome_86 rfl)
  (zc_so (si_goto F dX2_welcome_89 rfl)
  (zc_so (si_iload F dX2_welcome_92)
  (zc_so (si_rI F hQ hn hz hlocks hr (fun _ _ => rfl) dX2_welcome_94)
  (zc_nil))))))))))))))))))
theorem sd203 (F : zFx p l R s m args meth c D cid kv N0 xs Ls RX2 cX2_welcome 7 n0 z0 nF zE d) (IH : zAllM l D cid kv N0 xs Ls d) (hQ : ∀ v h, Qq v h → v = r0 ∧ h = hF) (hn : nF = zN hF) (hz : zE = zZ hF) (hlocks : meth.locks = false) (hr : meth.sig.returnType = (some .int)) (pc : Nat) : zSo p l e R s m args below meth c D cid kv N0 xs Ls 7 (MQ below (zQc D cid kv N0 xs Ls ρ0 r0 hF) args s (nF - n0) (zE - z0) (zA N0)) ρ0 n0 z0 nF zE Qq (zCall d) pc (zTab 203 pc) := zc_tab [zt203_0, zt203_1] (zc_cons (sd203_0 F IH hQ hn hz hlocks hr) (zc_cons (sd203_1 F IH hQ hn hz hlocks hr) zc_end))
theorem dX2_put_0 : decode cX2_put 0 = .ok (.aload_n 0, 1) := by decide +kernel
theorem dX2_put_1 : decode cX2_put 1 = .ok (.getfield 21, 3) := by decide +kernel
theorem dX2_put_4 : decode cX2_put 4 = .ok (.iload_n 1, 1) := by decide +kernel
theorem dX2_put_5 : decode cX2_put 5 = .ok (.iload_n 2, 1) := by decide +kernel
theorem dX2_put_6 : decode cX2_put 6 = .ok (.iastore, 1) := by decide +kernel
theorem dX2_put_7 : decode cX2_put 7 = .ok (.aload_n 0, 1) := by decide +kernel
theorem dX2_put_8 : decode cX2_put 8 = .ok (.getfield 27, 3) := by decide +kernel
theorem dX2_put_11 : decode cX2_put 11 = .ok (.iload_n 1, 1) := by decide +kernel
theorem dX2_put_12 : decode cX2_put 12 = .ok (.iconst 0, 1) := by decide +kernel
theorem dX2_put_13 : decode cX2_put 13 = .ok (.bastore, 1) := by decide +kernel
theorem dX2_put_14 : decode cX2_put 14 = .ok (.return_, 1) := by decide +kernel
theorem sd204_0 (F : zFx p l R s m args meth c D cid kv N0 xs Ls RX2 cX2_put 3 n0 z0 nF zE d) (IH : zAllM l D cid kv N0 xs Ls d) (hQ : ∀ v h, Qq v h → v = r0 ∧ h = hF) (hn : nF = zN hF) (hz : zE = zZ hF) (hlocks : meth.locks = false) (hr : meth.sig.returnType = none) : zSoL p l e R s m args below meth c D cid kv N0 xs Ls 3 (MQ below (zQc D cid kv N0 xs Ls ρ0 r0 hF) args s (nF - n0) (zE - z0) (zA N0)) ρ0 n0 z0 nF zE Qq (zCall d) zt204_0 := zc_so (si_aload_n F dX2_put_0 rfl)
  (zc_so (si_getR (k := 3) F rfl inT2 (by decide) (by decide) rfl rfl tb_39 dX2_put_1)
  (zc_so (si_iload_n F dX2_put_4 rfl)
  (zc_so (si_iload_n F dX2_put_5 rfl)
  (zc_so (si_iastore F dX2_put_6)
  (zc_so (si_aload_n F dX2_put_7 rfl)
  (zc_so (si_getR (k := 5) F rfl inT2 (by decide) (by decide) rfl rfl tb_43 dX2_put_8)
  (zc_so (si_iload_n F dX2_put_11 rfl)
  (zc_so (si_iconst F dX2_put_12 rfl)
  (zc_so (si_bastoreZ F dX2_put_13)
  (zc_so (si_rV F hQ hn hz hlocks hr dX2_put_14)
  (zc_nil)))))))))))
theorem sd204 (F : zFx p l R s m args meth c D cid kv N0 xs Ls RX2 cX2_put 3 n0 z0 nF zE d) (IH : zAllM l D cid kv N0 xs Ls d) (hQ : ∀ v h, Qq v h → v = r0 ∧ h = hF) (hn : nF = zN hF) (hz : zE = zZ hF) (hlocks : meth.locks = false) (hr : meth.sig.returnType = none) (pc : Nat) : zSo p l e R s m args below meth c D cid kv N0 xs Ls 3 (MQ below (zQc D cid kv N0 xs Ls ρ0 r0 hF) args s (nF - n0) (zE - z0) (zA N0)) ρ0 n0 z0 nF zE Qq (zCall d) pc (zTab 204 pc) := zc_tab [zt204_0] (zc_cons (sd204_0 F IH hQ hn hz hlocks hr) zc_end)
theorem dX2_esteem_0 : decode cX2_esteem 0 = .ok (.aload_n 0, 1) := by decide +kernel
theorem dX2_esteem_1 : decode cX2_esteem 1 = .ok (.getfield 18, 3) := by decide +kernel
theorem dX2_esteem_4 : decode cX2_esteem 4 = .ok (.iload_n 1, 1) := by decide +kernel
theorem dX2_esteem_5 : decode cX2_esteem 5 = .ok (.aload_n 0, 1) := by decide +kernel
theorem dX2_esteem_6 : decode cX2_esteem 6 = .ok (.getfield 18, 3) := by decide +kernel
theorem dX2_esteem_9 : decode cX2_esteem 9 = .ok (.iload_n 1, 1) := by decide +kernel
theorem dX2_esteem_10 : decode cX2_esteem 10 = .ok (.iaload, 1) := by decide +kernel
theorem dX2_esteem_11 : decode cX2_esteem 11 = .ok (.iload_n 2, 1) := by decide +kernel
theorem dX2_esteem_12 : decode cX2_esteem 12 = .ok (.iadd, 1) := by decide +kernel
theorem dX2_esteem_13 : decode cX2_esteem 13 = .ok (.bipush 99, 2) := by decide +kernel
theorem dX2_esteem_15 : decode cX2_esteem 15 = .ok (.invokestatic 57, 3) := by decide +kernel
theorem dX2_esteem_18 : decode cX2_esteem 18 = .ok (.iastore, 1) := by decide +kernel
theorem dX2_esteem_19 : decode cX2_esteem 19 = .ok (.return_, 1) := by decide +kernel
theorem sd205_0 (F : zFx p l R s m args meth c D cid kv N0 xs Ls RX2 cX2_esteem 3 n0 z0 nF zE d) (IH : zAllM l D cid kv N0 xs Ls d) (hQ : ∀ v h, Qq v h → v = r0 ∧ h = hF) (hn : nF = zN hF) (hz : zE = zZ hF) (hlocks : meth.locks = false) (hr : meth.sig.returnType = none) : zSoL p l e R s m args below meth c D cid kv N0 xs Ls 3 (MQ below (zQc D cid kv N0 xs Ls ρ0 r0 hF) args s (nF - n0) (zE - z0) (zA N0)) ρ0 n0 z0 nF zE Qq (zCall d) zt205_0 := zc_so (si_aload_n F dX2_esteem_0 rfl)
  (zc_so (si_getR (k := 2) F rfl inT2 (by decide) (by decide) rfl rfl tb_37 dX2_esteem_1)
  (zc_so (si_iload_n F dX2_esteem_4 rfl)
  (zc_so (si_aload_n F dX2_esteem_5 rfl)
  (zc_so (si_getR (k := 2) F rfl inT2 (by decide) (by decide) rfl rfl tb_37 dX2_esteem_6)
  (zc_so (si_iload_n F dX2_esteem_9 rfl)
  (zc_so (si_iaload F dX2_esteem_10)
  (zc_so (si_iload_n F dX2_esteem_11 rfl)
  (zc_so (si_iadd F dX2_esteem_12)
  (zc_so (si_bipush F dX2_esteem_13 rfl)
  (zc_so (si_min F tb_297 tb_298 tb_5 tb_299 dX2_esteem_15)
  (zc_so (si_iastore F dX2_esteem_18)
  (zc_so (si_rV F hQ hn hz hlocks hr dX2_esteem_19)
  (zc_nil)))))))))))))
theorem sd205 (F : zFx p l R s m args meth c D cid kv N0 xs Ls RX2 cX2_esteem 3 n0 z0 nF zE d) (IH : zAllM l D cid kv N0 xs Ls d) (hQ : ∀ v h, Qq v h → v = r0 ∧ h = hF) (hn : nF = zN hF) (hz : zE = zZ hF) (hlocks : meth.locks = false) (hr : meth.sig.returnType = none) (pc : Nat) : zSo p l e R s m args below meth c D cid kv N0 xs Ls 3 (MQ below (zQc D cid kv N0 xs Ls ρ0 r0 hF) args s (nF - n0) (zE - z0) (zA N0)) ρ0 n0 z0 nF zE Qq (zCall d) pc (zTab 205 pc) := zc_tab [zt205_0] (zc_cons (sd205_0 F IH hQ hn hz hlocks hr) zc_end)
theorem dX2_isAt_0 : decode cX2_isAt 0 = .ok (.iload_n 1, 1) := by decide +kernel
theorem dX2_isAt_1 : decode cX2_isAt 1 = .ok (.aload_n 0, 1) := by decide +kernel
theorem dX2_isAt_2 : decode cX2_isAt 2 = .ok (.getfield 43, 3) := by decide +kernel
theorem dX2_isAt_5 : decode cX2_isAt 5 = .ok (.iconst 1, 1) := by decide +kernel
theorem dX2_isAt_6 : decode cX2_isAt 6 = .ok (.isub, 1) := by decide +kernel
theorem dX2_isAt_7 : decode cX2_isAt 7 = .ok (.invokestatic 63, 3) := by decide +kernel
theorem dX2_isAt_10 : decode cX2_isAt 10 = .ok (.ifCond .eq 17, 3) := by decide +kernel
theorem dX2_isAt_13 : decode cX2_isAt 13 = .ok (.aload_n 0, 1) := by decide +kernel
theorem dX2_isAt_14 : decode cX2_isAt 14 = .ok (.getfield 21, 3) := by decide +kernel
theorem dX2_isAt_17 : decode cX2_isAt 17 = .ok (.iload_n 1, 1) := by decide +kernel
theorem dX2_isAt_18 : decode cX2_isAt 18 = .ok (.iaload, 1) := by decide +kernel
theorem dX2_isAt_19 : decode cX2_isAt 19 = .ok (.iload_n 2, 1) := by decide +kernel
theorem dX2_isAt_20 : decode cX2_isAt 20 = .ok (.if_icmp .ne 7, 3) := by decide +kernel
theorem dX2_isAt_23 : decode cX2_isAt 23 = .ok (.iconst 1, 1) := by decide +kernel
theorem dX2_isAt_24 : decode cX2_isAt 24 = .ok (.goto 4, 3) := by decide +kernel
theorem dX2_isAt_27 : decode cX2_isAt 27 = .ok (.iconst 0, 1) := by decide +kernel
theorem dX2_isAt_28 : decode cX2_isAt 28 = .ok (.ireturn, 1) := by decide +kernel
theorem sd206_0 (F : zFx p l R s m args meth c D cid kv N0 xs Ls RX2 cX2_isAt 3 n0 z0 nF zE d) (IH : zAllM l D cid kv N0 xs Ls d) (hQ : ∀ v h, Qq v h → v = r0 ∧ h = hF) (hn : nF = zN hF) (hz : zE = zZ hF) (hlocks : meth.locks = false) (hr : meth.sig.returnType = (some .boolean)) : zSoL p l e R s m args below meth c D cid kv N0 xs Ls 3 (MQ below (zQc D cid kv N0 xs Ls ρ0 r0 hF) args s (nF - n0) (zE - z0) (zA N0)) ρ0 n0 z0 nF zE Qq (zCall d) zt206_0 := zc_so (si_iload_n F dX2_isAt_0 rfl)
  (zc_so (si_aload_n F dX2_isAt_1 rfl)
  (zc_so (si_getI (k := 7) F rfl inT2 (by decide) (by decide) rfl rfl tb_47 dX2_isAt_2)
  (zc_so (si_iconst F dX2_isAt_5 rfl)
  (zc_so (si_isub F dX2_isAt_6)
  (zc_so (si_cSN (host := "TurnBack") F (IH 744 mm744) mp744 (by decide) (by decide +kernel) mi744 mn744 mc744 dX2_isAt_7)
  (zc_so (si_ifeq F dX2_isAt_10 rfl)
  (zc_so (si_aload_n F dX2_isAt_13 rfl)
  (zc_so (si_getR (k := 3) F rfl inT2 (by decide) (by decide) rfl rfl tb_39 dX2_isAt_14)
  (zc_so (si_iload_n F dX2_isAt_17 rfl)
  (zc_so (si_iaload F dX2_isAt_18)
  (zc_so (si_iload_n F dX2_isAt_19 rfl)
  (zc_so (si_icne F dX2_isAt_20 rfl)
  (zc_so (si_iconst F dX2_isAt_23 rfl)
  (zc_so (si_goto F dX2_isAt_24 rfl)
  (zc_so (si_iconst F dX2_isAt_27 rfl)
  (zc_so (si_rI F hQ hn hz hlocks hr (fun x h => by rcases h with rfl | rfl <;> rfl) dX2_isAt_28)
  (zc_nil)))))))))))))))))
theorem sd206 (F : zFx p l R s m args meth c D cid kv N0 xs Ls RX2 cX2_isAt 3 n0 z0 nF zE d) (IH : zAllM l D cid kv N0 xs Ls d) (hQ : ∀ v h, Qq v h → v = r0 ∧ h = hF) (hn : nF = zN hF) (hz : zE = zZ hF) (hlocks : meth.locks = false) (hr : meth.sig.returnType = (some .boolean)) (pc : Nat) : zSo p l e R s m args below meth c D cid kv N0 xs Ls 3 (MQ below (zQc D cid kv N0 xs Ls ρ0 r0 hF) args s (nF - n0) (zE - z0) (zA N0)) ρ0 n0 z0 nF zE Qq (zCall d) pc (zTab 206 pc) := zc_tab [zt206_0] (zc_cons (sd206_0 F IH hQ hn hz hlocks hr) zc_end)
theorem dX2_isUnderWay_0 : decode cX2_isUnderWay 0 = .ok (.aload_n 0, 1) := by decide +kernel
theorem dX2_isUnderWay_1 : decode cX2_isUnderWay 1 = .ok (.getfield 21, 3) := by decide +kernel
theorem dX2_isUnderWay_4 : decode cX2_isUnderWay 4 = .ok (.iload_n 1, 1) := by decide +kernel
theorem dX2_isUnderWay_5 : decode cX2_isUnderWay 5 = .ok (.iaload, 1) := by decide +kernel
theorem dX2_isUnderWay_6 : decode cX2_isUnderWay 6 = .ok (.ifCond .eq 18, 3) := by decide +kernel
theorem dX2_isUnderWay_9 : decode cX2_isUnderWay 9 = .ok (.aload_n 0, 1) := by decide +kernel
theorem dX2_isUnderWay_10 : decode cX2_isUnderWay 10 = .ok (.getfield 21, 3) := by decide +kernel
theorem dX2_isUnderWay_13 : decode cX2_isUnderWay 13 = .ok (.iload_n 1, 1) := by decide +kernel
theorem dX2_isUnderWay_14 : decode cX2_isUnderWay 14 = .ok (.iaload, 1) := by decide +kernel
theorem dX2_isUnderWay_15 : decode cX2_isUnderWay 15 = .ok (.bipush 10, 2) := by decide +kernel
theorem dX2_isUnderWay_17 : decode cX2_isUnderWay 17 = .ok (.if_icmp .eq 7, 3) := by decide +kernel
theorem dX2_isUnderWay_20 : decode cX2_isUnderWay 20 = .ok (.iconst 1, 1) := by decide +kernel
theorem dX2_isUnderWay_21 : decode cX2_isUnderWay 21 = .ok (.goto 4, 3) := by decide +kernel
theorem dX2_isUnderWay_24 : decode cX2_isUnderWay 24 = .ok (.iconst 0, 1) := by decide +kernel
theorem dX2_isUnderWay_25 : decode cX2_isUnderWay 25 = .ok (.ireturn, 1) := by decide +kernel
theorem sd207_0 (F : zFx p l R s m args meth c D cid kv N0 xs Ls RX2 cX2_isUnderWay 2 n0 z0 nF zE d) (IH : zAllM l D cid kv N0 xs Ls d) (hQ : ∀ v h, Qq v h → v = r0 ∧ h = hF) (hn : nF = zN hF) (hz : zE = zZ hF) (hlocks : meth.locks = false) (hr : meth.sig.returnType = (some .boolean)) : zSoL p l e R s m args below meth c D cid kv N0 xs Ls 2 (MQ below (zQc D cid kv N0 xs Ls ρ0 r0 hF) args s (nF - n0) (zE - z0) (zA N0)) ρ0 n0 z0 nF zE Qq (zCall d) zt207_0 := zc_so (si_aload_n F dX2_isUnderWay_0 rfl)
  (zc_so (si_getR (k := 3) F rfl inT2 (by decide) (by decide) rfl rfl tb_39 dX2_isUnderWay_1)
  (zc_so (si_iload_n F dX2_isUnderWay_4 rfl)
  (zc_so (si_iaload F dX2_isUnderWay_5)
  (zc_so (si_ifeq F dX2_isUnderWay_6 rfl)
  (zc_so (si_aload_n F dX2_isUnderWay_9 rfl)
  (zc_so (si_getR (k := 3) F rfl inT2 (by decide) (by decide) rfl rfl tb_39 dX2_isUnderWay_10)
  (zc_so (si_iload_n F dX2_isUnderWay_13 rfl)
  (zc_so (si_iaload F dX2_isUnderWay_14)
  (zc_so (si_bipush F dX2_isUnderWay_15 rfl)
  (zc_so (si_iceq F dX2_isUnderWay_17 rfl)
  (zc_so (si_iconst F dX2_isUnderWay_20 rfl)
  (zc_so (si_goto F dX2_isUnderWay_21 rfl)
  (zc_so (si_iconst F dX2_isUnderWay_24 rfl)
  (zc_so (si_rI F hQ hn hz hlocks hr (fun x h => by rcases h with rfl | rfl <;> rfl) dX2_isUnderWay_25)
  (zc_nil)))))))))))))))
theorem sd207 (F : zFx p l R s m args meth c D cid kv N0 xs Ls RX2 cX2_isUnderWay 2 n0 z0 nF zE d) (IH : zAllM l D cid kv N0 xs Ls d) (hQ : ∀ v h, Qq v h → v = r0 ∧ h = hF) (hn : nF = zN hF) (hz : zE = zZ hF) (hlocks : meth.locks = false) (hr : meth.sig.returnType = (some .boolean)) (pc : Nat) : zSo p l e R s m args below meth c D cid kv N0 xs Ls 2 (MQ below (zQc D cid kv N0 xs Ls ρ0 r0 hF) args s (nF - n0) (zE - z0) (zA N0)) ρ0 n0 z0 nF zE Qq (zCall d) pc (zTab 207 pc) := zc_tab [zt207_0] (zc_cons (sd207_0 F IH hQ hn hz hlocks hr) zc_end)
theorem dX2_bitsAt_0 : decode cX2_bitsAt 0 = .ok (.iconst 0, 1) := by decide +kernel
theorem dX2_bitsAt_1 : decode cX2_bitsAt 1 = .ok (.istore_n 2, 1) := by decide +kernel
theorem dX2_bitsAt_2 : decode cX2_bitsAt 2 = .ok (.iconst 0, 1) := by decide +kernel
theorem dX2_bitsAt_3 : decode cX2_bitsAt 3 = .ok (.istore_n 3, 1) := by decide +kernel
theorem dX2_bitsAt_4 : decode cX2_bitsAt 4 = .ok (.iload_n 3, 1) := by decide +kernel
theorem dX2_bitsAt_5 : decode cX2_bitsAt 5 = .ok (.aload_n 0, 1) := by decide +kernel
theorem dX2_bitsAt_6 : decode cX2_bitsAt 6 = .ok (.getfield 43, 3) := by decide +kernel
theorem dX2_bitsAt_9 : decode cX2_bitsAt 9 = .ok (.if_icmp .ge 25, 3) := by decide +kernel
theorem dX2_bitsAt_12 : decode cX2_bitsAt 12 = .ok (.aload_n 0, 1) := by decide +kernel
theorem dX2_bitsAt_13 : decode cX2_bitsAt 13 = .ok (.getfield 21, 3) := by decide +kernel
theorem dX2_bitsAt_16 : decode cX2_bitsAt 16 = .ok (.iload_n 3, 1) := by decide +kernel
theorem dX2_bitsAt_17 : decode cX2_bitsAt 17 = .ok (.iaload, 1) := by decide +kernel
theorem dX2_bitsAt_18 : decode cX2_bitsAt 18 = .ok (.iload_n 1, 1) := by decide +kernel
theorem dX2_bitsAt_19 : decode cX2_bitsAt 19 = .ok (.if_icmp .ne 9, 3) := by decide +kernel
theorem dX2_bitsAt_22 : decode cX2_bitsAt 22 = .ok (.iload_n 2, 1) := by decide +kernel
theorem dX2_bitsAt_23 : decode cX2_bitsAt 23 = .ok (.iconst 1, 1) := by decide +kernel
theorem dX2_bitsAt_24 : decode cX2_bitsAt 24 = .ok (.iload_n 3, 1) := by decide +kernel
theorem dX2_bitsAt_25 : decode cX2_bitsAt 25 = .ok (.ishl, 1) := by decide +kernel
theorem dX2_bitsAt_26 : decode cX2_bitsAt 26 = .ok (.ior, 1) := by decide +kernel
theorem dX2_bitsAt_27 : decode cX2_bitsAt 27 = .ok (.istore_n 2, 1) := by decide +kernel
theorem dX2_bitsAt_28 : decode cX2_bitsAt 28 = .ok (.iinc 3 1, 3) := by decide +kernel
theorem dX2_bitsAt_31 : decode cX2_bitsAt 31 = .ok (.goto (-27), 3) := by decide +kernel
theorem dX2_bitsAt_34 : decode cX2_bitsAt 34 = .ok (.iload_n 2, 1) := by decide +kernel
theorem dX2_bitsAt_35 : decode cX2_bitsAt 35 = .ok (.ireturn, 1) := by decide +kernel
theorem sd208_0 (F : zFx p l R s m args meth c D cid kv N0 xs Ls RX2 cX2_bitsAt 4 n0 z0 nF zE d) (IH : zAllM l D cid kv N0 xs Ls d) (hQ : ∀ v h, Qq v h → v = r0 ∧ h = hF) (hn : nF = zN hF) (hz : zE = zZ hF) (hlocks : meth.locks = false) (hr : meth.sig.returnType = (some .int)) : zSoL p l e R s m args below meth c D cid kv N0 xs Ls 4 (MQ below (zQc D cid kv N0 xs Ls ρ0 r0 hF) args s (nF - n0) (zE - z0) (zA N0)) ρ0 n0 z0 nF zE Qq (zCall d) zt208_0 := zc_so (si_iconst F dX2_bitsAt_0 rfl)
  (zc_so (si_istore_n F dX2_bitsAt_1 rfl)
  (zc_so (si_iconst F dX2_bitsAt_2 rfl)
  (zc_so (si_istore_n F dX2_bitsAt_3 rfl)
  (zc_so (si_iload_n F dX2_bitsAt_4 rfl)
  (zc_so (si_aload_n F dX2_bitsAt_5 rfl)
  (zc_so (si_getI (k := 7) F rfl inT2 (by decide) (by decide) rfl rfl tb_47 dX2_bitsAt_6)
  (zc_so (si_icge F dX2_bitsAt_9 rfl)
  (zc_so (si_aload_n F dX2_bitsAt_12 rfl)
  (zc_so (si_getR (k := 3) F rfl inT2 (by decide) (by decide) rfl rfl tb_39 dX2_bitsAt_13)
  (zc_so (si_iload_n F dX2_bitsAt_16 rfl)
  (zc_so (si_iaload F dX2_bitsAt_17)
  (zc_so (si_iload_n F dX2_bitsAt_18 rfl)
  (zc_so (si_icne F dX2_bitsAt_19 rfl)
  (zc_so (si_iload_n F dX2_bitsAt_22 rfl)
  (zc_so (si_iconst F dX2_bitsAt_23 rfl)
  (zc_so (si_iload_n F dX2_bitsAt_24 rfl)
  (zc_so (si_ishl F dX2_bitsAt_25)
  (zc_so (si_ior F dX2_bitsAt_26)
  (zc_so (si_istore_n F dX2_bitsAt_27 rfl)
  (zc_so (si_iinc F dX2_bitsAt_28 rfl)
  (zc_so (si_goto F dX2_bitsAt_31 rfl)
  (zc_so (si_iload_n F dX2_bitsAt_34 rfl)
  (zc_so (si_rI F hQ hn hz hlocks hr (fun _ _ => rfl) dX2_bitsAt_35)
  (zc_nil))))))))))))))))))))))))
theorem sd208 (F : zFx p l R s m args meth c D cid kv N0 xs Ls RX2 cX2_bitsAt 4 n0 z0 nF zE d) (IH : zAllM l D cid kv N0 xs Ls d) (hQ : ∀ v h, Qq v h → v = r0 ∧ h = hF) (hn : nF = zN hF) (hz : zE = zZ hF) (hlocks : meth.locks = false) (hr : meth.sig.returnType = (some .int)) (pc : Nat) : zSo p l e R s m args below meth c D cid kv N0 xs Ls 4 (MQ below (zQc D cid kv N0 xs Ls ρ0 r0 hF) args s (nF - n0) (zE - z0) (zA N0)) ρ0 n0 z0 nF zE Qq (zCall d) pc (zTab 208 pc) := zc_tab [zt208_0] (zc_cons (sd208_0 F IH hQ hn hz hlocks hr) zc_end)
theorem dX2_bitsBack_0 : decode cX2_bitsBack 0 = .ok (.iconst 0, 1) := by decide +kernel
theorem dX2_bitsBack_1 : decode cX2_bitsBack 1 = .ok (.istore_n 1, 1) := by decide +kernel
theorem dX2_bitsBack_2 : decode cX2_bitsBack 2 = .ok (.iconst 0, 1) := by decide +kernel
theorem dX2_bitsBack_3 : decode cX2_bitsBack 3 = .ok (.istore_n 2, 1) := by decide +kernel
theorem dX2_bitsBack_4 : decode cX2_bitsBack 4 = .ok (.iload_n 2, 1) := by decide +kernel
theorem dX2_bitsBack_5 : decode cX2_bitsBack 5 = .ok (.aload_n 0, 1) := by decide +kernel
theorem dX2_bitsBack_6 : decode cX2_bitsBack 6 = .ok (.getfield 43, 3) := by decide +kernel
theorem dX2_bitsBack_9 : decode cX2_bitsBack 9 = .ok (.if_icmp .ge 24, 3) := by decide +kernel
theorem dX2_bitsBack_12 : decode cX2_bitsBack 12 = .ok (.aload_n 0, 1) := by decide +kernel
theorem dX2_bitsBack_13 : decode cX2_bitsBack 13 = .ok (.getfield 27, 3) := by decide +kernel
theorem dX2_bitsBack_16 : decode cX2_bitsBack 16 = .ok (.iload_n 2, 1) := by decide +kernel
theorem dX2_bitsBack_17 : decode cX2_bitsBack 17 = .ok (.baload, 1) := by decide +kernel
theorem dX2_bitsBack_18 : decode cX2_bitsBack 18 = .ok (.ifCond .eq 9, 3) := by decide +kernel
theorem dX2_bitsBack_21 : decode cX2_bitsBack 21 = .ok (.iload_n 1, 1) := by decide +kernel
theorem dX2_bitsBack_22 : decode cX2_bitsBack 22 = .ok (.iconst 1, 1) := by decide +kernel
theorem dX2_bitsBack_23 : decode cX2_bitsBack 23 = .ok (.iload_n 2, 1) := by decide +kernel
theorem dX2_bitsBack_24 : decode cX2_bitsBack 24 = .ok (.ishl, 1) := by decide +kernel
theorem dX2_bitsBack_25 : decode cX2_bitsBack 25 = .ok (.ior, 1) := by decide +kernel
theorem dX2_bitsBack_26 : decode cX2_bitsBack 26 = .ok (.istore_n 1, 1) := by decide +kernel
theorem dX2_bitsBack_27 : decode cX2_bitsBack 27 = .ok (.iinc 2 1, 3) := by decide +kernel
theorem dX2_bitsBack_30 : decode cX2_bitsBack 30 = .ok (.goto (-26), 3) := by decide +kernel
theorem dX2_bitsBack_33 : decode cX2_bitsBack 33 = .ok (.iload_n 1, 1) := by decide +kernel
theorem dX2_bitsBack_34 : decode cX2_bitsBack 34 = .ok (.ireturn, 1) := by decide +kernel
theorem sd209_0 (F : zFx p l R s m args meth c D cid kv N0 xs Ls RX2 cX2_bitsBack 3 n0 z0 nF zE d) (IH : zAllM l D cid kv N0 xs Ls d) (hQ : ∀ v h, Qq v h → v = r0 ∧ h = hF) (hn : nF = zN hF) (hz : zE = zZ hF) (hlocks : meth.locks = false) (hr : meth.sig.returnType = (some .int)) : zSoL p l e R s m args below meth c D cid kv N0 xs Ls 3 (MQ below (zQc D cid kv N0 xs Ls ρ0 r0 hF) args s (nF - n0) (zE - z0) (zA N0)) ρ0 n0 z0 nF zE Qq (zCall d) zt209_0 := zc_so (si_iconst F dX2_bitsBack_0 rfl)
  (zc_so (si_istore_n F dX2_bitsBack_1 rfl)
  (zc_so (si_iconst F dX2_bitsBack_2 rfl)
  (zc_so (si_istore_n F dX2_bitsBack_3 rfl)
  (zc_so (si_iload_n F dX2_bitsBack_4 rfl)
  (zc_so (si_aload_n F dX2_bitsBack_5 rfl)
  (zc_so (si_getI (k := 7) F rfl inT2 (by decide) (by decide) rfl rfl tb_47 dX2_bitsBack_6)
  (zc_so (si_icge F dX2_bitsBack_9 rfl)
  (zc_so (si_aload_n F dX2_bitsBack_12 rfl)
  (zc_so (si_getR (k := 5) F rfl inT2 (by decide) (by decide) rfl rfl tb_43 dX2_bitsBack_13)
  (zc_so (si_iload_n F dX2_bitsBack_16 rfl)
  (zc_so (si_baloadZ F dX2_bitsBack_17)
  (zc_so (si_ifeq F dX2_bitsBack_18 rfl)
  (zc_so (si_iload_n F dX2_bitsBack_21 rfl)
  (zc_so (si_iconst F dX2_bitsBack_22 rfl)
  (zc_so (si_iload_n F dX2_bitsBack_23 rfl)
  (zc_so (si_ishl F dX2_bitsBack_24)
  (zc_so (si_ior F dX2_bitsBack_25)
  (zc_so (si_istore_n F dX2_bitsBack_26 rfl)
  (zc_so (si_iinc F dX2_bitsBack_27 rfl)
  (zc_so (si_goto F dX2_bitsBack_30 rfl)
  (zc_so (si_iload_n F dX2_bitsBack_33 rfl)
  (zc_so (si_rI F hQ hn hz hlocks hr (fun _ _ => rfl) dX2_bitsBack_34)
  (zc_nil)))))))))))))))))))))))
theorem sd209 (F : zFx p l R s m args meth c D cid kv N0 xs Ls RX2 cX2_bitsBack 3 n0 z0 nF zE d) (IH : zAllM l D cid kv N0 xs Ls d) (hQ : ∀ v h, Qq v h → v = r0 ∧ h = hF) (hn : nF = zN hF) (hz : zE = zZ hF) (hlocks : meth.locks = false) (hr : meth.sig.returnType = (some .int)) (pc : Nat) : zSo p l e R s m args below meth c D cid kv N0 xs Ls 3 (MQ below (zQc D cid kv N0 xs Ls ρ0 r0 hF) args s (nF - n0) (zE - z0) (zA N0)) ρ0 n0 z0 nF zE Qq (zCall d) pc (zTab 209 pc) := zc_tab [zt209_0] (zc_cons (sd209_0 F IH hQ hn hz hlocks hr) zc_end)
theorem dX2_goOn_0 : decode cX2_goOn 0 = .ok (.iconst 0, 1) := by decide +kernel
theorem dX2_goOn_1 : decode cX2_goOn 1 = .ok (.istore_n 2, 1) := by decide +kernel
theorem dX2_goOn_2 : decode cX2_goOn 2 = .ok (.iload_n 2, 1) := by decide +kernel
theorem dX2_goOn_3 : decode cX2_goOn 3 = .ok (.iload_n 1, 1) := by decide +kernel
theorem dX2_goOn_4 : decode cX2_goOn 4 = .ok (.if_icmp .ge 40, 3) := by decide +kernel
theorem dX2_goOn_7 : decode cX2_goOn 7 = .ok (.iconst 0, 1) := by decide +kernel
theorem dX2_goOn_8 : decode cX2_goOn 8 = .ok (.istore_n 3, 1) := by decide +kernel
theorem dX2_goOn_9 : decode cX2_goOn 9 = .ok (.iload_n 3, 1) := by decide +kernel
theorem dX2_goOn_10 : decode cX2_goOn 10 = .ok (.aload_n 0, 1) := by decide +kernel
theorem dX2_goOn_11 : decode cX2_goOn 11 = .ok (.getfield 43, 3) := by decide +kernel
theorem dX2_goOn_14 : decode cX2_goOn 14 = .ok (.if_icmp .ge 14, 3) := by decide +kernel
theorem dX2_goOn_17 : decode cX2_goOn 17 = .ok (.aload_n 0, 1) := by decide +kernel
theorem dX2_goOn_18 : decode cX2_goOn 18 = .ok (.iload_n 3, 1) := by decide +kernel
theorem dX2_goOn_19 : decode cX2_goOn 19 = .ok (.invokevirtual 67, 3) := by decide +kernel
theorem dX2_goOn_22 : decode cX2_goOn 22 = .ok (.iinc 3 1, 3) := by decide +kernel
theorem dX2_goOn_25 : decode cX2_goOn 25 = .ok (.goto (-16), 3) := by decide +kernel
theorem dX2_goOn_28 : decode cX2_goOn 28 = .ok (.aload_n 0, 1) := by decide +kernel
theorem dX2_goOn_29 : decode cX2_goOn 29 = .ok (.dup, 1) := by decide +kernel
theorem dX2_goOn_30 : decode cX2_goOn 30 = .ok (.getfield 46, 3) := by decide +kernel
theorem dX2_goOn_33 : decode cX2_goOn 33 = .ok (.iconst 1, 1) := by decide +kernel
theorem dX2_goOn_34 : decode cX2_goOn 34 = .ok (.iadd, 1) := by decide +kernel
theorem dX2_goOn_35 : decode cX2_goOn 35 = .ok (.putfield 46, 3) := by decide +kernel
theorem dX2_goOn_38 : decode cX2_goOn 38 = .ok (.iinc 2 1, 3) := by decide +kernel
theorem dX2_goOn_41 : decode cX2_goOn 41 = .ok (.goto (-39), 3) := by decide +kernel
theorem dX2_goOn_44 : decode cX2_goOn 44 = .ok (.return_, 1) := by decide +kernel
theorem sd210_0 (F : zFx p l R s m args meth c D cid kv N0 xs Ls RX2 cX2_goOn 4 n0 z0 nF zE d) (IH : zAllM l D cid kv N0 xs Ls d) (hQ : ∀ v h, Qq v h → v = r0 ∧ h = hF) (hn : nF = zN hF) (hz : zE = zZ hF) (hlocks : meth.locks = false) (hr : meth.sig.returnType = none) : zSoL p l e R s m args below meth c D cid kv N0 xs Ls 4 (MQ below (zQc D cid kv N0 xs Ls ρ0 r0 hF) args s (nF - n0) (zE - z0) (zA N0)) ρ0 n0 z0 nF zE Qq (zCall d) zt210_0 := zc_so (si_iconst F dX2_goOn_0 rfl)
  (zc_so (si_istore_n F dX2_goOn_1 rfl)
  (zc_so (si_iload_n F dX2_goOn_2 rfl)
  (zc_so (si_iload_n F dX2_goOn_3 rfl)
  (zc_so (si_icge F dX2_goOn_4 rfl)
  (zc_so (si_iconst F dX2_goOn_7 rfl)
  (zc_so (si_istore_n F dX2_goOn_8 rfl)
  (zc_so (si_iload_n F dX2_goOn_9 rfl)
  (zc_so (si_aload_n F dX2_goOn_10 rfl)
  (zc_so (si_getI (k := 7) F rfl inT2 (by decide) (by decide) rfl rfl tb_47 dX2_goOn_11)
  (zc_so (si_icge F dX2_goOn_14 rfl)
  (zc_so (si_aload_n F dX2_goOn_17 rfl)
  (zc_so (si_iload_n F dX2_goOn_18 rfl)
  (zc_so (si_cV F (IH 211 mm211) mp211 (by decide) rfl rfl (by decide) tb_312 mi211 ms211 mn211 mc211 dX2_goOn_19)
  (zc_so (si_iinc F dX2_goOn_22 rfl)
  (zc_so (si_goto F dX2_goOn_25 rfl)
  (zc_so (si_aload_n F dX2_goOn_28 rfl)
  (zc_so (si_dup F dX2_goOn_29)
  (zc_so (si_getI (k := 9) F rfl inT2 (by decide) (by decide) rfl rfl tb_51 dX2_goOn_30)
  (zc_so (si_iconst F dX2_goOn_33 rfl)
  (zc_so (si_iadd F dX2_goOn_34)
  (zc_so (si_putI (k := 9) F rfl inT2 (by decide) (by decide) rfl rfl rfl rfl tyX2_ok nmX2 tb_51 dX2_goOn_35)
  (zc_so (si_iinc F dX2_goOn_38 rfl)
  (zc_so (si_goto F dX2_goOn_41 rfl)
  (zc_so (si_rV F hQ hn hz hlocks hr dX2_goOn_44)
  (zc_nil)))))))))))))))))))))))))
theorem sd210 (F : zFx p l R s m args meth c D cid kv N0 xs Ls RX2 cX2_goOn 4 n0 z0 nF zE d) (IH : zAllM l D cid kv N0 xs Ls d) (hQ : ∀ v h, Qq v h → v = r0 ∧ h = hF) (hn : nF = zN hF) (hz : zE = zZ hF) (hlocks : meth.locks = false) (hr : meth.sig.returnType = none) (pc : Nat) : zSo p l e R s m args below meth c D cid kv N0 xs Ls 4 (MQ below (zQc D cid kv N0 xs Ls ρ0 r0 hF) args s (nF - n0) (zE - z0) (zA N0)) ρ0 n0 z0 nF zE Qq (zCall d) pc (zTab 210 pc) := zc_tab [zt210_0] (zc_cons (sd210_0 F IH hQ hn hz hlocks hr) zc_end)
theorem dX2_walkOn_0 : decode cX2_walkOn 0 = .ok (.aload_n 0, 1) := by decide +kernel
theorem dX2_walkOn_1 : decode cX2_walkOn 1 = .ok (.getfield 21, 3) := by decide +kernel
theorem dX2_walkOn_4 : decode cX2_walkOn 4 = .ok (.iload_n 1, 1) := by decide +kernel
theorem dX2_walkOn_5 : decode cX2_walkOn 5 = .ok (.iaload, 1) := by decide +kernel
theorem dX2_walkOn_6 : decode cX2_walkOn 6 = .ok (.bipush 10, 2) := by decide +kernel
theorem dX2_walkOn_8 : decode cX2_walkOn 8 = .ok (.if_icmp .ne 4, 3) := by decide +kernel
theorem dX2_walkOn_11 : decode cX2_walkOn 11 = .ok (.return_, 1) := by decide +kernel
theorem dX2_walkOn_12 : decode cX2_walkOn 12 = .ok (.aload_n 0, 1) := by decide +kernel
theorem dX2_walkOn_13 : decode cX2_walkOn 13 = .ok (.getfield 21, 3) := by decide +kernel
theorem dX2_walkOn_16 : decode cX2_walkOn 16 = .ok (.iload_n 1, 1) := by decide +kernel
theorem dX2_walkOn_17 : decode cX2_walkOn 17 = .ok (.dup2, 1) := by decide +kernel
theorem dX2_walkOn_18 : decode cX2_walkOn 18 = .ok (.iaload, 1) := by decide +kernel
theorem dX2_walkOn_19 : decode cX2_walkOn 19 = .ok (.aload_n 0, 1) := by decide +kernel
theorem dX2_walkOn_20 : decode cX2_walkOn 20 = .ok (.getfield 27, 3) := by decide +kernel
theorem dX2_walkOn_23 : decode cX2_walkOn 23 = .ok (.iload_n 1, 1) := by decide +kernel
theorem dX2_walkOn_24 : decode cX2_walkOn 24 = .ok (.baload, 1) := by decide +kernel
theorem dX2_walkOn_25 : decode cX2_walkOn 25 = .ok (.ifCond .eq 7, 3) := by decide +kernel
theorem dX2_walkOn_28 : decode cX2_walkOn 28 = .ok (.iconst (-1), 1) := by decide +kernel
theorem dX2_walkOn_29 : decode cX2_walkOn 29 = .ok (.goto 4, 3) := by decide +kernel
theorem dX2_walkOn_32 : decode cX2_walkOn 32 = .ok (.iconst 1, 1) := by decide +kernel
theorem dX2_walkOn_33 : decode cX2_walkOn 33 = .ok (.iadd, 1) := by decide +kernel
theorem dX2_walkOn_34 : decode cX2_walkOn 34 = .ok (.iastore, 1) := by decide +kernel
theorem dX2_walkOn_35 : decode cX2_walkOn 35 = .ok (.aload_n 0, 1) := by decide +kernel
theorem dX2_walkOn_36 : decode cX2_walkOn 36 = .ok (.getfield 21, 3) := by decide +kernel
theorem dX2_walkOn_39 : decode cX2_walkOn 39 = .ok (.iload_n 1, 1) := by decide +kernel
theorem dX2_walkOn_40 : decode cX2_walkOn 40 = .ok (.iaload, 1) := by decide +kernel
theorem dX2_walkOn_41 : decode cX2_walkOn 41 = .ok (.ifCond .ne 10, 3) := by decide +kernel
theorem dX2_walkOn_44 : decode cX2_walkOn 44 = .ok (.aload_n 0, 1) := by decide +kernel
theorem dX2_walkOn_45 : decode cX2_walkOn 45 = .ok (.getfield 27, 3) := by decide +kernel
theorem dX2_walkOn_48 : decode cX2_walkOn 48 = .ok (.iload_n 1, 1) := by decide +kernel
theorem dX2_walkOn_49 : decode cX2_walkOn 49 = .ok (.iconst 0, 1) := by decide +kernel
theorem dX2_walkOn_50 : decode cX2_walkOn 50 = .ok (.bastore, 1) := by decide +kernel
theorem dX2_walkOn_51 : decode cX2_walkOn 51 = .ok (.aload_n 0, 1) := by decide +kernel
theorem dX2_walkOn_52 : decode cX2_walkOn 52 = .ok (.getfield 21, 3) := by decide +kernel
theorem dX2_walkOn_55 : decode cX2_walkOn 55 = .ok (.iload_n 1, 1) := by decide +kernel
theorem dX2_walkOn_56 : decode cX2_walkOn 56 = .ok (.iaload, 1) := by decide +kernel
theorem dX2_walkOn_57 : decode cX2_walkOn 57 = .ok (.iconst 5, 1) := by decide +kernel
theorem dX2_walkOn_58 : decode cX2_walkOn 58 = .ok (.if_icmp .ne 12, 3) := by decide +kernel
theorem dX2_walkOn_61 : decode cX2_walkOn 61 = .ok (.aload_n 0, 1) := by decide +kernel
theorem dX2_walkOn_62 : decode cX2_walkOn 62 = .ok (.getfield 27, 3) := by decide +kernel
theorem dX2_walkOn_65 : decode cX2_walkOn 65 = .ok (.iload_n 1, 1) := by decide +kernel
theorem dX2_walkOn_66 : decode cX2_walkOn 66 = .ok (.baload, 1) := by decide +kernel
theorem dX2_walkOn_67 : decode cX2_walkOn 67 = .ok (.ifCond .eq 4, 3) := by decide +kernel
theorem dX2_walkOn_70 : decode cX2_walkOn 70 = .ok (.return_, 1) := by decide +kernel
theorem dX2_walkOn_71 : decode cX2_walkOn 71 = .ok (.aload_n 0, 1) := by decide +kernel
theorem dX2_walkOn_72 : decode cX2_walkOn 72 = .ok (.iload_n 1, 1) := by decide +kernel
theorem dX2_walkOn_73 : decode cX2_walkOn 73 = .ok (.invokevirtual 71, 3) := by decide +kernel
theorem dX2_walkOn_76 : decode cX2_walkOn 76 = .ok (.istore_n 2, 1) := by decide +kernel
theorem dX2_walkOn_77 : decode cX2_walkOn 77 = .ok (.iload_n 2, 1) := by decide +kernel
theorem dX2_walkOn_78 : decode cX2_walkOn 78 = .ok (.ifCond .le 54, 3) := by decide +kernel
theorem dX2_walkOn_81 : decode cX2_walkOn 81 = .ok (.iload_n 2, 1) := by decide +kernel
theorem dX2_walkOn_82 : decode cX2_walkOn 82 = .ok (.aload_n 0, 1) := by decide +kernel
theorem dX2_walkOn_83 : decode cX2_walkOn 83 = .ok (.getfield 36, 3) := by decide +kernel
theorem dX2_walkOn_86 : decode cX2_walkOn 86 = .ok (.if_icmp .gt 46, 3) := by decide +kernel
theorem dX2_walkOn_89 : decode cX2_walkOn 89 = .ok (.iload_n 2, 1) := by decide +kernel
theorem dX2_walkOn_90 : decode cX2_walkOn 90 = .ok (.aload_n 0, 1) := by decide +kernel
theorem dX2_walkOn_91 : decode cX2_walkOn 91 = .ok (.getfield 18, 3) := by decide +kernel
theorem dX2_walkOn_94 : decode cX2_walkOn 94 = .ok (.iload_n 1, 1) := by decide +kernel
theorem dX2_walkOn_95 : decode cX2_walkOn 95 = .ok (.iaload, 1) := by decide +kernel
theorem dX2_walkOn_96 : decode cX2_walkOn 96 = .ok (.if_icmp .lt 36, 3) := by decide +kernel
theorem dX2_walkOn_99 : decode cX2_walkOn 99 = .ok (.aload_n 0, 1) := by decide +kernel
theorem dX2_walkOn_100 : decode cX2_walkOn 100 = .ok (.dup, 1) := by decide +kernel
theorem dX2_walkOn_101 : decode cX2_walkOn 101 = .ok (.getfield 36, 3) := by decide +kernel
theorem dX2_walkOn_104 : decode cX2_walkOn 104 = .ok (.iload_n 2, 1) := by decide +kernel
theorem dX2_walkOn_105 : decode cX2_walkOn 105 = .ok (.isub, 1) := by decide +kernel
theorem dX2_walkOn_106 : decode cX2_walkOn 106 = .ok (.putfield 36, 3) := by decide +kernel
theorem dX2_walkOn_109 : decode cX2_walkOn 109 = .ok (.aload_n 0, 1) := by decide +kernel
theorem dX2_walkOn_110 : decode cX2_walkOn 110 = .ok (.getfield 27, 3) := by decide +kernel
theorem dX2_walkOn_113 : decode cX2_walkOn 113 = .ok (.iload_n 1, 1) := by decide +kernel
theorem dX2_walkOn_114 : decode cX2_walkOn 114 = .ok (.iconst 1, 1) := by decide +kernel
theorem dX2_walkOn_115 : decode cX2_walkOn 115 = .ok (.bastore, 1) := by decide +kernel
theorem dX2_walkOn_116 : decode cX2_walkOn 116 = .ok (.aload_n 0, 1) := by decide +kernel
theorem dX2_walkOn_117 : decode cX2_walkOn 117 = .ok (.getfield 24, 3) := by decide +kernel
theorem dX2_walkOn_120 : decode cX2_walkOn 120 = .ok (.iload_n 1, 1) := by decide +kernel
theorem dX2_walkOn_121 : decode cX2_walkOn 121 = .ok (.dup2, 1) := by decide +kernel
theorem dX2_walkOn_122 : decode cX2_walkOn 122 = .ok (.iaload, 1) := by decide +kernel
theorem dX2_walkOn_123 : decode cX2_walkOn 123 = .ok (.iconst 1, 1) := by decide +kernel
theorem dX2_walkOn_124 : decode cX2_walkOn 124 = .ok (.iadd, 1) := by decide +kernel
theorem dX2_walkOn_125 : decode cX2_walkOn 125 = .ok (.iastore, 1) := by decide +kernel
theorem dX2_walkOn_126 : decode cX2_walkOn 126 = .ok (.aload_n 0, 1) := by decide +kernel
theorem dX2_walkOn_127 : decode cX2_walkOn 127 = .ok (.iload_n 1, 1) := by decide +kernel
theorem dX2_walkOn_128 : decode cX2_walkOn 128 = .ok (.iconst 3, 1) := by decide +kernel
theorem dX2_walkOn_129 : decode cX2_walkOn 129 = .ok (.invokevirtual 75, 3) := by decide +kernel
theorem dX2_walkOn_132 : decode cX2_walkOn 132 = .ok (.return_, 1) := by decide +kernel
theorem sd211_0 (F : zFx p l R s m args meth c D cid kv N0 xs Ls RX2 cX2_walkOn 3 n0 z0 nF zE d) (IH : zAllM l D cid kv N0 xs Ls d) (hQ : ∀ v h, Qq v h → v = r0 ∧ h = hF) (hn : nF = zN hF) (hz : zE = zZ hF) (hlocks : meth.locks = false) (hr : meth.sig.returnType = none) : zSoL p l e R s m args below meth c D cid kv N0 xs Ls 3 (MQ below (zQc D cid kv N0 xs Ls ρ0 r0 hF) args s (nF - n0) (zE - z0) (zA N0)) ρ0 n0 z0 nF zE Qq (zCall d) zt211_0 := zc_so (si_aload_n F dX2_walkOn_0 rfl)
  (zc_so (si_getR (k := 3) F rfl inT2 (by decide) (by decide) rfl rfl tb_39 dX2_walkOn_1)
  (zc_so (si_iload_n F dX2_walkOn_4 rfl)
  (zc_so (si_iaload F dX2_walkOn_5)
  (zc_so (si_bipush F dX2_walkOn_6 rfl)
  (zc_so (si_icne F dX2_walkOn_8 rfl)
  (zc_so (si_rV F hQ hn hz hlocks hr dX2_walkOn_11)
  (zc_so (si_aload_n F dX2_walkOn_12 rfl)
  (zc_so (si_getR (k := 3) F rfl inT2 (by decide) (by decide) rfl rfl tb_39 dX2_walkOn_13)
  (zc_so (si_iload_n F dX2_walkOn_16 rfl)
  (zc_so (si_dup2 F dX2_walkOn_17)
  (zc_so (si_iaload F dX2_walkOn_18)
  (zc_so (si_aload_n F dX2_walkOn_19 rfl)
  (zc_so (si_getR (k := 5) F rfl inT2 (by decide) (by decide) rfl rfl tb_43 dX2_walkOn_20)
  (zc_so (si_iload_n F dX2_walkOn_23 rfl)
  (zc_so (si_baloadZ F dX2_walkOn_24)
  (zc_so (si_ifeq F dX2_walkOn_25 rfl)
  (zc_so (si_iconst F dX2_walkOn_28 rfl)
  (zc_so (si_goto F dX2_walkOn_29 rfl)
  (zc_so (si_iconst F dX2_walkOn_32 rfl)
  (zc_so (si_iadd F dX2_walkOn_33)
  (zc_so (si_iastore F dX2_walkOn_34)
  (zc_so (si_aload_n F dX2_walkOn_35 rfl)
  (zc_so (si_getR (k := 3) F rfl inT2 (by decide) (by decide) rfl rfl tb_39 dX2_walkOn_36)
  (zc_so (si_iload_n F dX2_walkOn_39 rfl)
  (zc_so (si_iaload F dX2_walkOn_40)
  (zc_so (si_ifne F dX2_walkOn_41 rfl)
  (zc_so (si_aload_n F dX2_walkOn_44 rfl)
  (zc_so (si_getR (k := 5) F rfl inT2 (by decide) (by decide) rfl rfl tb_43 dX2_walkOn_45)
  (zc_so (si_iload_n F dX2_walkOn_48 rfl)
  (zc_so (si_iconst F dX2_walkOn_49 rfl)
  (zc_so (si_bastoreZ F dX2_walkOn_50)
  (zc_so (si_aload_n F dX2_walkOn_51 rfl)
  (zc_so (si_getR (k := 3) F rfl inT2 (by decide) (by decide) rfl rfl tb_39 dX2_walkOn_52)
  (zc_so (si_iload_n F dX2_walkOn_55 rfl)
  (zc_so (si_iaload F dX2_walkOn_56)
  (zc_so (si_iconst F dX2_walkOn_57 rfl)
  (zc_so (si_icne F dX2_walkOn_58 rfl)
  (zc_so (si_aload_n F dX2_walkOn_61 rfl)
  (zc_so (si_getR (k := 5) F rfl inT2 (by decide) (by decide) rfl rfl tb_43 dX2_walkOn_62)
  (zc_nil))))))))))))))))))))))))))))))))))))))))
theorem sd211_1 (F : zFx p l R s m args meth c D cid kv N0 xs Ls RX2 cX2_walkOn 3 n0 z0 nF zE d) (IH : zAllM l D cid kv N0 xs Ls d) (hQ : ∀ v h, Qq v h → v = r0 ∧ h = hF) (hn : nF = zN hF) (hz : zE = zZ hF) (hlocks : meth.locks = false) (hr : meth.sig.returnType = none) : zSoL p l e R s m args below meth c D cid kv N0 xs Ls 3 (MQ below (zQc D cid kv N0 xs Ls ρ0 r0 hF) args s (nF - n0) (zE - z0) (zA N0)) ρ0 n0 z0 nF zE Qq (zCall d) zt211_1 := zc_so (si_iload_n F dX2_walkOn_65 rfl)
  (zc_so (si_baloadZ F dX2_walkOn_66)
  (zc_so (si_ifeq F dX2_walkOn_67 rfl)
  (zc_so (si_rV F hQ hn hz hlocks hr dX2_walkOn_70)
  (zc_so (si_aload_n F dX2_walkOn_71 rfl)
  (zc_so (si_iload_n F dX2_walkOn_72 rfl)
  (zc_so (si_cV F (IH 212 mm212) mp212 (by decide) rfl rfl (by decide) tb_316 mi212 ms212 mn212 mc212 dX2_walkOn_73)
  (zc_so (si_istore_n F dX2_walkOn_76 rfl)
  (zc_so (si_iload_n F dX2_walkOn_77 rfl)
  (zc_so (si_ifle F dX2_walkOn_78 rfl)
  (zc_so (si_iload_n F dX2_walkOn_81 rfl)
  (zc_so (si_aload_n F dX2_walkOn_82 rfl)
  (zc_so (si_getI (k := 8) F rfl inT2 (by decide) (by decide) rfl rfl tb_49 dX2_walkOn_83)
  (zc_so (si_icgt F dX2_walkOn_86 rfl)
  (zc_so (si_iload_n F dX2_walkOn_89 rfl)
  (zc_so (si_aload_n F dX2_walkOn_90 rfl)
  (zc_so (si_getR (k := 2) F rfl inT2 (by decide) (by decide) rfl rfl tb_37 dX2_walkOn_91)
  (zc_so (si_iload_n F dX2_walkOn_94 rfl)
  (zc_so (si_iaload F dX2_walkOn_95)
  (zc_so (si_iclt F dX2_walkOn_96 rfl)
  (zc_so (si_aload_n F dX2_walkOn_99 rfl)
  (zc_so (si_dup F dX2_walkOn_100)
  (zc_so (si_getI (k := 8) F rfl inT2 (by decide) (by decide) rfl rfl tb_49 dX2_walkOn_101)
  (zc_so (si_iload_n F dX2_walkOn_104 rfl)
  (zc_so (si_isub F dX2_walkOn_105)
  (zc_so (si_putI (k := 8) F rfl inT2 (by decide) (by decide) rfl rfl rfl rfl tyX2_ok nmX2 tb_49 dX2_walkOn_106)
  (zc_so (si_aload_n F dX2_walkOn_109 rfl)
  (zc_so (si_getR (k := 5) F rfl inT2 (by decide) (by decide) rfl rfl tb_43 dX2_walkOn_110)
  (zc_so (si_iload_n F dX2_walkOn_113 rfl)
  (zc_so (si_iconst F dX2_walkOn_114 rfl)
  (zc_so (si_bastoreZ F dX2_walkOn_115)
  (zc_so (si_aload_n F dX2_walkOn_116 rfl)
  (zc_so (si_getR (k := 4) F rfl inT2 (by decide) (by decide) rfl rfl tb_41 dX2_walkOn_117)
  (zc_so (si_iload_n F dX2_walkOn_120 rfl)
  (zc_so (si_dup2 F dX2_walkOn_121)
  (zc_so (si_iaload F dX2_walkOn_122)
  (zc_so (si_iconst F dX2_walkOn_123 rfl)
  (zc_so (si_iadd F dX2_walkOn_124)
  (zc_so (si_iastore F dX2_walkOn_125)
  (zc_so (si_aload_n F dX2_walkOn_126 rfl)
  (zc_so (si_iload_n F dX2_walkOn_127 rfl)
  (zc_nil)))))))))))))))))))))))))))))))))))))))))
theorem sd211_2 (F : zFx p l R s m args meth c D cid kv N0 xs Ls RX2 cX2_walkOn 3 n0 z0 nF zE d) (IH : zAllM l D cid kv N0 xs Ls d) (hQ : ∀ v h, Qq v h → v = r0 ∧ h = hF) (hn : nF = zN hF) (hz : zE = zZ hF) (hlocks : meth.locks = false) (hr : meth.sig.returnType = none) : zSoL p l e R s m args below meth c D cid kv N0 xs Ls 3 (MQ below (zQc D cid kv N0 xs Ls ρ0 r0 hF) args s (nF - n0) (zE - z0) (zA N0)) ρ0 n0 z0 nF zE Qq (zCall d) zt211_2 := zc_so (si_iconst F dX2_walkOn_128 rfl)
  (zc_so (si_cV F (IH 205 mm205) mp205 (by decide) rfl rfl (by decide) tb_317 mi205 ms205 mn205 mc205 dX2_walkOn_129)
  (zc_so (si_rV F hQ hn hz hlocks hr dX2_walkOn_132)
  (zc_nil)))
theorem sd211 (F : zFx p l R s m args meth c D cid kv N0 xs Ls RX2 cX2_walkOn 3 n0 z0 nF zE d) (IH : zAllM l D cid kv N0 xs Ls d) (hQ : ∀ v h, Qq v h → v = r0 ∧ h = hF) (hn : nF = zN hF) (hz : zE = zZ hF) (hlocks : meth.locks = false) (hr : meth.sig.returnType = none) (pc : Nat) : zSo p l e R s m args below meth c D cid kv N0 xs Ls 3 (MQ below (zQc D cid kv N0 xs Ls ρ0 r0 hF) args s (nF - n0) (zE - z0) (zA N0)) ρ0 n0 z0 nF zE Qq (zCall d) pc (zTab 211 pc) := zc_tab [zt211_0, zt211_1, zt211_2] (zc_cons (sd211_0 F IH hQ hn hz hlocks hr) (zc_cons (sd211_1 F IH hQ hn hz hlocks hr) (zc_cons (sd211_2 F IH hQ hn hz hlocks hr) zc_end)))
theorem dX2_offerTo_0 : decode cX2_offerTo 0 = .ok (.aload_n 0, 1) := by decide +kernel
theorem dX2_offerTo_1 : decode cX2_offerTo 1 = .ok (.invokevirtual 78, 3) := by decide +kernel
theorem dX2_offerTo_4 : decode cX2_offerTo 4 = .ok (.istore_n 2, 1) := by decide +kernel
theorem dX2_offerTo_5 : decode cX2_offerTo 5 = .ok (.aload_n 0, 1) := by decide +kernel
theorem dX2_offerTo_6 : decode cX2_offerTo 6 = .ok (.getfield 49, 3) := by decide +kernel
theorem dX2_offerTo_9 : decode cX2_offerTo 9 = .ok (.ifnull 15, 3) := by decide +kernel
theorem dX2_offerTo_12 : decode cX2_offerTo 12 = .ok (.iload_n 2, 1) := by decide +kernel
theorem dX2_offerTo_13 : decode cX2_offerTo 13 = .ok (.aload_n 0, 1) := by decide +kernel
theorem dX2_offerTo_14 : decode cX2_offerTo 14 = .ok (.getfield 49, 3) := by decide +kernel
theorem dX2_offerTo_17 : decode cX2_offerTo 17 = .ok (.aload_n 0, 1) := by decide +kernel
theorem dX2_offerTo_18 : decode cX2_offerTo 18 = .ok (.iload_n 1, 1) := by decide +kernel
theorem dX2_offerTo_19 : decode cX2_offerTo 19 = .ok (.invokevirtual 82, 3) := by decide +kernel
theorem dX2_offerTo_22 : decode cX2_offerTo 22 = .ok (.iadd, 1) := by decide +kernel
theorem dX2_offerTo_23 : decode cX2_offerTo 23 = .ok (.istore_n 2, 1) := by decide +kernel
theorem dX2_offerTo_24 : decode cX2_offerTo 24 = .ok (.aload_n 0, 1) := by decide +kernel
theorem dX2_offerTo_25 : decode cX2_offerTo 25 = .ok (.getfield 9, 3) := by decide +kernel
theorem dX2_offerTo_28 : decode cX2_offerTo 28 = .ok (.iload_n 1, 1) := by decide +kernel
theorem dX2_offerTo_29 : decode cX2_offerTo 29 = .ok (.iaload, 1) := by decide +kernel
theorem dX2_offerTo_30 : decode cX2_offerTo 30 = .ok (.tableswitch 136 1 6 #[38, 70, 94, 47, 74, 108], 38) := by decide +kernel
theorem dX2_offerTo_68 : decode cX2_offerTo 68 = .ok (.iload_n 2, 1) := by decide +kernel
theorem dX2_offerTo_69 : decode cX2_offerTo 69 = .ok (.aload_n 0, 1) := by decide +kernel
theorem dX2_offerTo_70 : decode cX2_offerTo 70 = .ok (.getfield 15, 3) := by decide +kernel
theorem dX2_offerTo_73 : decode cX2_offerTo 73 = .ok (.iload_n 1, 1) := by decide +kernel
theorem dX2_offerTo_74 : decode cX2_offerTo 74 = .ok (.iaload, 1) := by decide +kernel
theorem dX2_offerTo_75 : decode cX2_offerTo 75 = .ok (.iadd, 1) := by decide +kernel
theorem dX2_offerTo_76 : decode cX2_offerTo 76 = .ok (.ireturn, 1) := by decide +kernel
theorem dX2_offerTo_77 : decode cX2_offerTo 77 = .ok (.iload_n 2, 1) := by decide +kernel
theorem dX2_offerTo_78 : decode cX2_offerTo 78 = .ok (.aload_n 0, 1) := by decide +kernel
theorem dX2_offerTo_79 : decode cX2_offerTo 79 = .ok (.getfield 15, 3) := by decide +kernel
theorem dX2_offerTo_82 : decode cX2_offerTo 82 = .ok (.iload_n 1, 1) := by decide +kernel
theorem dX2_offerTo_83 : decode cX2_offerTo 83 = .ok (.iaload, 1) := by decide +kernel
theorem dX2_offerTo_84 : decode cX2_offerTo 84 = .ok (.iadd, 1) := by decide +kernel
theorem dX2_offerTo_85 : decode cX2_offerTo 85 = .ok (.aload_n 0, 1) := by decide +kernel
theorem dX2_offerTo_86 : decode cX2_offerTo 86 = .ok (.iload_n 1, 1) := by decide +kernel
theorem dX2_offerTo_87 : decode cX2_offerTo 87 = .ok (.invokevirtual 88, 3) := by decide +kernel
theorem dX2_offerTo_90 : decode cX2_offerTo 90 = .ok (.ifCond .eq 7, 3) := by decide +kernel
theorem dX2_offerTo_93 : decode cX2_offerTo 93 = .ok (.iconst 2, 1) := by decide +kernel
theorem dX2_offerTo_94 : decode cX2_offerTo 94 = .ok (.goto 4, 3) := by decide +kernel
theorem dX2_offerTo_97 : decode cX2_offerTo 97 = .ok (.iconst 1, 1) := by decide +kernel
theorem dX2_offerTo_98 : decode cX2_offerTo 98 = .ok (.imul, 1) := by decide +kernel
theorem dX2_offerTo_99 : decode cX2_offerTo 99 = .ok (.ireturn, 1) := by decide +kernel
theorem dX2_offerTo_100 : decode cX2_offerTo 100 = .ok (.iload_n 2, 1) := by decide +kernel
theorem dX2_offerTo_101 : decode cX2_offerTo 101 = .ok (.iconst 2, 1) := by decide +kernel
theorem dX2_offerTo_102 : decode cX2_offerTo 102 = .ok (.idiv, 1) := by decide +kernel
theorem dX2_offerTo_103 : decode cX2_offerTo 103 = .ok (.ireturn, 1) := by decide +kernel
theorem dX2_offerTo_104 : decode cX2_offerTo 104 = .ok (.iload_n 2, 1) := by decide +kernel
theorem dX2_offerTo_105 : decode cX2_offerTo 105 = .ok (.iconst 2, 1) := by decide +kernel
theorem dX2_offerTo_106 : decode cX2_offerTo 106 = .ok (.idiv, 1) := by decide +kernel
theorem dX2_offerTo_107 : decode cX2_offerTo 107 = .ok (.aload_n 0, 1) := by decide +kernel
theorem dX2_offerTo_108 : decode cX2_offerTo 108 = .ok (.getfield 46, 3) := by decide +kernel
theorem dX2_offerTo_111 : decode cX2_offerTo 111 = .ok (.bipush 7, 2) := by decide +kernel
theorem dX2_offerTo_113 : decode cX2_offerTo 113 = .ok (.irem, 1) := by decide +kernel
theorem dX2_offerTo_114 : decode cX2_offerTo 114 = .ok (.ifCond .ne 7, 3) := by decide +kernel
theorem dX2_offerTo_117 : decode cX2_offerTo 117 = .ok (.iconst 5, 1) := by decide +kernel
theorem dX2_offerTo_118 : decode cX2_offerTo 118 = .ok (.goto 4, 3) := by decide +kernel
theorem dX2_offerTo_121 : decode cX2_offerTo 121 = .ok (.iconst 0, 1) := by decide +kernel
theorem dX2_offerTo_122 : decode cX2_offerTo 122 = .ok (.iadd, 1) := by decide +kernel
theorem dX2_offerTo_123 : decode cX2_offerTo 123 = .ok (.ireturn, 1) := by decide +kernel
theorem dX2_offerTo_124 : decode cX2_offerTo 124 = .ok (.iload_n 2, 1) := by decide +kernel
theorem dX2_offerTo_125 : decode cX2_offerTo 125 = .ok (.aload_n 0, 1) := by decide +kernel
theorem dX2_offerTo_126 : decode cX2_offerTo 126 = .ok (.getfield 24, 3) := by decide +kernel
theorem dX2_offerTo_129 : decode cX2_offerTo 129 = .ok (.iload_n 1, 1) := by decide +kernel
theorem dX2_offerTo_130 : decode cX2_offerTo 130 = .ok (.iaload, 1) := by decide +kernel
theorem dX2_offerTo_131 : decode cX2_offerTo 131 = .ok (.bipush 10, 2) := by decide +kernel
theorem dX2_offerTo_133 : decode cX2_offerTo 133 = .ok (.invokestatic 57, 3) := by decide +kernel
theorem dX2_offerTo_136 : decode cX2_offerTo 136 = .ok (.isub, 1) := by decide +kernel
theorem dX2_offerTo_137 : decode cX2_offerTo 137 = .ok (.ireturn, 1) := by decide +kernel
theorem dX2_offerTo_138 : decode cX2_offerTo 138 = .ok (.iload_n 2, 1) := by decide +kernel
theorem dX2_offerTo_139 : decode cX2_offerTo 139 = .ok (.aload_n 0, 1) := by decide +kernel
theorem dX2_offerTo_140 : decode cX2_offerTo 140 = .ok (.getfield 24, 3) := by decide +kernel
theorem dX2_offerTo_143 : decode cX2_offerTo 143 = .ok (.iload_n 1, 1) := by decide +kernel
theorem dX2_offerTo_144 : decode cX2_offerTo 144 = .ok (.iaload, 1) := by decide +kernel
theorem dX2_offerTo_145 : decode cX2_offerTo 145 = .ok (.bipush 10, 2) := by decide +kernel
theorem dX2_offerTo_147 : decode cX2_offerTo 147 = .ok (.invokestatic 57, 3) := by decide +kernel
theorem dX2_offerTo_150 : decode cX2_offerTo 150 = .ok (.isub, 1) := by decide +kernel
theorem dX2_offerTo_151 : decode cX2_offerTo 151 = .ok (.aload_n 0, 1) := by decide +kernel
theorem dX2_offerTo_152 : decode cX2_offerTo 152 = .ok (.getfield 33, 3) := by decide +kernel
theorem dX2_offerTo_155 : decode cX2_offerTo 155 = .ok (.iload_n 1, 1) := by decide +kernel
theorem dX2_offerTo_156 : decode cX2_offerTo 156 = .ok (.aaload, 1) := by decide +kernel
theorem dX2_offerTo_157 : decode cX2_offerTo 157 = .ok (.aload_n 0, 1) := by decide +kernel
theorem dX2_offerTo_158 : decode cX2_offerTo 158 = .ok (.getfield 46, 3) := by decide +kernel
theorem dX2_offerTo_161 : decode cX2_offerTo 161 = .ok (.iconst 4, 1) := by decide +kernel
theorem dX2_offerTo_162 : decode cX2_offerTo 162 = .ok (.irem, 1) := by decide +kernel
theorem dX2_offerTo_163 : decode cX2_offerTo 163 = .ok (.iaload, 1) := by decide +kernel
theorem dX2_offerTo_164 : decode cX2_offerTo 164 = .ok (.iadd, 1) := by decide +kernel
theorem dX2_offerTo_165 : decode cX2_offerTo 165 = .ok (.ireturn, 1) := by decide +kernel
theorem dX2_offerTo_166 : decode cX2_offerTo 166 = .ok (.iload_n 2, 1) := by decide +kernel
theorem dX2_offerTo_167 : decode cX2_offerTo 167 = .ok (.ireturn, 1) := by decide +kernel
theorem sd212_0 (F : zFx p l R s m args meth c D cid kv N0 xs Ls RX2 cX2_offerTo 3 n0 z0 nF zE d) (IH : zAllM l D cid kv N0 xs Ls d) (hQ : ∀ v h, Qq v h → v = r0 ∧ h = hF) (hn : nF = zN hF) (hz : zE = zZ hF) (hlocks : meth.locks = false) (hr : meth.sig.returnType = (some .int)) : zSoL p l e R s m args below meth c D cid kv N0 xs Ls 3 (MQ below (zQc D cid kv N0 xs Ls ρ0 r0 hF) args s (nF - n0) (zE - z0) (zA N0)) ρ0 n0 z0 nF zE Qq (zCall d) zt212_0 := zc_so (si_aload_n F dX2_offerTo_0 rfl)
  (zc_so (si_cV F (IH 213 mm213) mp213 (by decide) rfl rfl (by decide) tb_274 mi213 ms213 mn213 mc213 dX2_offerTo_1)
  (zc_so (si_istore_n F dX2_offerTo_4 rfl)
  (zc_so (si_aload_n F dX2_offerTo_5 rfl)
  (zc_so (si_getR (k := 10) F rfl inT2 (by decide) (by decide) rfl rfl tb_53 dX2_offerTo_6)
  (zc_so (si_ifnull F dX2_offerTo_9 rfl)
  (zc_so (si_iload_n F dX2_offerTo_12 rfl)
  (zc_so (si_aload_n F dX2_offerTo_13 rfl)
  (zc_so (si_getR (k := 10) F rfl inT2 (by decide) (by decide) rfl rfl tb_53 dX2_offerTo_14)
  (zc_so (si_aload_n F dX2_offerTo_17 rfl)
  (zc_so (si_iload_n F dX2_offerTo_18 rfl)
  (zc_so (si_cV F (IH 404 mm404) mp404 (by decide) rfl rfl (by decide) tb_278 mi404 ms404 mn404 mc404 dX2_offerTo_19)
  (zc_so (si_iadd F dX2_offerTo_22)
  (zc_so (si_istore_n F dX2_offerTo_23 rfl)
  (zc_so (si_aload_n F dX2_offerTo_24 rfl)
  (zc_so (si_getR (k := 0) F rfl inT2 (by decide) (by decide) rfl rfl tb_33 dX2_offerTo_25)
  (zc_so (si_iload_n F dX2_offerTo_28 rfl)
  (zc_so (si_iaload F dX2_offerTo_29)
  (zc_so (so_swT F.1.1 F.1.2.1 dX2_offerTo_30 rfl rfl ⟨rfl, rfl, ⟨rfl, rfl, ⟨rfl, rfl, ⟨rfl, rfl, ⟨rfl, rfl, ⟨rfl, rfl, trivial⟩⟩⟩⟩⟩⟩)
  (zc_nil)))))))))))))))))))
theorem sd212_1 (F : zFx p l R s m args meth c D cid kv N0 xs Ls RX2 cX2_offerTo 3 n0 z0 nF zE d) (IH : zAllM l D cid kv N0 xs Ls d) (hQ : ∀ v h, Qq v h → v = r0 ∧ h = hF) (hn : nF = zN hF) (hz : zE = zZ hF) (hlocks : meth.locks = false) (hr : meth.sig.returnType = (some .int)) : zSoL p l e R s m args below meth c D cid kv N0 xs Ls 3 (MQ below (zQc D cid kv N0 xs Ls ρ0 r0 hF) args s (nF - n0) (zE - z0) (zA N0)) ρ0 n0 z0 nF zE Qq (zCall d) zt212_1 := zc_so (si_iload_n F dX2_offerTo_68 rfl)
  (zc_so (si_aload_n F dX2_offerTo_69 rfl)
  (zc_so (si_getR (k := 1) F rfl inT2 (by decide) (by decide) rfl rfl tb_35 dX2_offerTo_70)
  (zc_so (si_iload_n F dX2_offerTo_73 rfl)
  (zc_so (si_iaload F dX2_offerTo_74)
  (zc_so (si_iadd F dX2_offerTo_75)
  (zc_so (si_rI F hQ hn hz hlocks hr (fun _ _ => rfl) dX2_offerTo_76)
  (zc_so (si_iload_n F dX2_offerTo_77 rfl)
  (zc_so (si_aload_n F dX2_offerTo_78 rfl)
  (zc_so (si_getR (k := 1) F rfl inT2 (by decide) (by decide) rfl rfl tb_35 dX2_offerTo_79)
  (zc_so (si_iload_n F dX2_offerTo_82 rfl)
  (zc_so (si_iaload F dX2_offerTo_83)
  (zc_so (si_iadd F dX2_offerTo_84)
  (zc_so (si_aload_n F dX2_offerTo_85 rfl)
  (zc_so (si_iload_n F dX2_offerTo_86 rfl)
  (zc_so (si_cV F (IH 214 mm214) mp214 (by decide) rfl rfl (by decide) tb_289 mi214 ms214 mn214 mc214 dX2_offerTo_87)
  (zc_so (si_ifeq F dX2_offerTo_90 rfl)
  (zc_so (si_iconst F dX2_offerTo_93 rfl)
  (zc_so (si_goto F dX2_offerTo_94 rfl)
  (zc_so (si_iconst F dX2_offerTo_97 rfl)
  (zc_so (si_imul F dX2_offerTo_98)
  (zc_so (si_rI F hQ hn hz hlocks hr (fun _ _ => rfl) dX2_offerTo_99)
  (zc_so (si_iload_n F dX2_offerTo_100 rfl)
  (zc_so (si_iconst F dX2_offerTo_101 rfl)
  (zc_so (si_idiv F dX2_offerTo_102)
  (zc_so (si_rI F hQ hn hz hlocks hr (fun _ _ => rfl) dX2_offerTo_103)
  (zc_so (si_iload_n F dX2_offerTo_104 rfl)
  (zc_so (si_iconst F dX2_offerTo_105 rfl)
  (zc_so (si_idiv F dX2_offerTo_106)
  (zc_so (si_aload_n F dX2_offerTo_107 rfl)
  (zc_so (si_getI (k := 9) F rfl inT2 (by decide) (by decide) rfl rfl tb_51 dX2_offerTo_108)
  (zc_so (si_bipush F dX2_offerTo_111 rfl)
  (zc_so (si_irem F dX2_offerTo_113)
  (zc_so (si_ifne F dX2_offerTo_114 rfl)
  (zc_so (si_iconst F dX2_offerTo_117 rfl)
  (zc_so (si_goto F dX2_offerTo_118 rfl)
  (zc_so (si_iconst F dX2_offerTo_121 rfl)
  (zc_so (si_iadd F dX2_offerTo_122)
  (zc_so (si_rI F hQ hn hz hlocks hr (fun _ _ => rfl) dX2_offerTo_123)
  (zc_so (si_iload_n F dX2_offerTo_124 rfl)
  (zc_so (si_aload_n F dX2_offerTo_125 rfl)
  (zc_so (si_getR (k := 4) F rfl inT2 (by decide) (by decide) rfl rfl tb_41 dX2_offerTo_126)
  (zc_nil))))))))))))))))))))))))))))))))))))))))))
theorem sd212_2 (F : zFx p l R s m args meth c D cid kv N0 xs Ls RX2 cX2_offerTo 3 n0 z0 nF zE d) (IH : zAllM l D cid kv N0 xs Ls d) (hQ : ∀ v h, Qq v h → v = r0 ∧ h = hF) (hn : nF = zN hF) (hz : zE = zZ hF) (hlocks : meth.locks = false) (hr : meth.sig.returnType = (some .int)) : zSoL p l e R s m args below meth c D cid kv N0 xs Ls 3 (MQ below (zQc D cid kv N0 xs Ls ρ0 r0 hF) args s (nF - n0) (zE - z0) (zA N0)) ρ0 n0 z0 nF zE Qq (zCall d) zt212_2 := zc_so (si_iload_n F dX2_offerTo_129 rfl)
  (zc_so (si_iaload F dX2_offerTo_130)
  (zc_so (si_bipush F dX2_offerTo_131 rfl)
  (zc_so (si_min F tb_297 tb_298 tb_5 tb_299 dX2_offerTo_133)
  (zc_so (si_isub F dX2_offerTo_136)
  (zc_so (si_rI F hQ hn hz hlocks hr (fun _ _ => rfl) dX2_offerTo_137)
  (zc_so (si_iload_n F dX2_offerTo_138 rfl)
  (zc_so (si_aload_n F dX2_offerTo_139 rfl)
  (zc_so (si_getR (k := 4) F rfl inT2 (by decide) (by decide) rfl rfl tb_41 dX2_offerTo_140)
  (zc_so (si_iload_n F dX2_offerTo_143 rfl)
  (zc_so (si_iaload F dX2_offerTo_144)
  (zc_so (si_bipush F dX2_offerTo_145 rfl)
  (zc_so (si_min F tb_297 tb_298 tb_5 tb_299 dX2_offerTo_147)
  (zc_so (si_isub F dX2_offerTo_150)
  (zc_so (si_aload_n F dX2_offerTo_151 rfl)
  (zc_so (si_getR (k := 6) F rfl inT2 (by decide) (by decide) rfl rfl tb_45 dX2_offerTo_152)
  (zc_so (si_iload_n F dX2_offerTo_155 rfl)
  (zc_so (si_aaloadI F dX2_offerTo_156)
  (zc_so (si_aload_n F dX2_offerTo_157 rfl)
  (zc_so (si_getI (k := 9) F rfl inT2 (by decide) (by decide) rfl rfl tb_51 dX2_offerTo_158)
  (zc_so (si_iconst F dX2_offerTo_161 rfl)
  (zc_so (si_irem F dX2_offerTo_162)
  (zc_so (si_iaload F dX2_offerTo_163)
  (zc_so (si_iadd F dX2_offerTo_164)
  (zc_so (si_rI F hQ hn hz hlocks hr (fun _ _ => rfl) dX2_offerTo_165)
  (zc_so (si_iload_n F dX2_offerTo_166 rfl)
  (zc_so (si_rI F hQ hn hz hlocks hr (fun _ _ => rfl) dX2_offerTo_167)
  (zc_nil)))))))))))))))))))))))))))
theorem sd212 (F : zFx p l R s m args meth c D cid kv N0 xs Ls RX2 cX2_offerTo 3 n0 z0 nF zE d) (IH : zAllM l D cid kv N0 xs Ls d) (hQ : ∀ v h, Qq v h → v = r0 ∧ h = hF) (hn : nF = zN hF) (hz : zE = zZ hF) (hlocks : meth.locks = false) (hr : meth.sig.returnType = (some .int)) (pc : Nat) : zSo p l e R s m args below meth c D cid kv N0 xs Ls 3 (MQ below (zQc D cid kv N0 xs Ls ρ0 r0 hF) args s (nF - n0) (zE - z0) (zA N0)) ρ0 n0 z0 nF zE Qq (zCall d) pc (zTab 212 pc) := zc_tab [zt212_0, zt212_1, zt212_2] (zc_cons (sd212_0 F IH hQ hn hz hlocks hr) (zc_cons (sd212_1 F IH hQ hn hz hlocks hr) (zc_cons (sd212_2 F IH hQ hn hz hlocks hr) zc_end)))
theorem dX2_payNow_0 : decode cX2_payNow 0 = .ok (.aload_n 0, 1) := by decide +kernel
theorem dX2_payNow_1 : decode cX2_payNow 1 = .ok (.getfield 40, 3) := by decide +kernel
theorem dX2_payNow_4 : decode cX2_payNow 4 = .ok (.ifCond .lt 8, 3) := by decide +kernel
theorem dX2_payNow_7 : decode cX2_payNow 7 = .ok (.aload_n 0, 1) := by decide +kernel
theorem dX2_payNow_8 : decode cX2_payNow 8 = .ok (.getfield 40, 3) := by decide +kernel
theorem dX2_payNow_11 : decode cX2_payNow 11 = .ok (.ireturn, 1) := by decide +kernel
theorem dX2_payNow_12 : decode cX2_payNow 12 = .ok (.aload_n 0, 1) := by decide +kernel
theorem dX2_payNow_13 : decode cX2_payNow 13 = .ok (.getfield 49, 3) := by decide +kernel
theorem dX2_payNow_16 : decode cX2_payNow 16 = .ok (.ifnonnull 8, 3) := by decide +kernel
theorem dX2_payNow_19 : decode cX2_payNow 19 = .ok (.bipush 10, 2) := by decide +kernel
theorem dX2_payNow_21 : decode cX2_payNow 21 = .ok (.goto 10, 3) := by decide +kernel
theorem dX2_payNow_24 : decode cX2_payNow 24 = .ok (.aload_n 0, 1) := by decide +kernel
theorem dX2_payNow_25 : decode cX2_payNow 25 = .ok (.getfield 49, 3) := by decide +kernel
theorem dX2_payNow_28 : decode cX2_payNow 28 = .ok (.getfield 92, 3) := by decide +kernel
theorem dX2_payNow_31 : decode cX2_payNow 31 = .ok (.ireturn, 1) := by decide +kernel
theorem sd213_0 (F : zFx p l R s m args meth c D cid kv N0 xs Ls RX2 cX2_payNow 1 n0 z0 nF zE d) (IH : zAllM l D cid kv N0 xs Ls d) (hQ : ∀ v h, Qq v h → v = r0 ∧ h = hF) (hn : nF = zN hF) (hz : zE = zZ hF) (hlocks : meth.locks = false) (hr : meth.sig.returnType = (some .int)) : zSoL p l e R s m args below meth c D cid kv N0 xs Ls 1 (MQ below (zQc D cid kv N0 xs Ls ρ0 r0 hF) args s (nF - n0) (zE - z0) (zA N0)) ρ0 n0 z0 nF zE Qq (zCall d) zt213_0 := zc_so (si_aload_n F dX2_payNow_0 rfl)
  (zc_so (si_getI (k := 11) F rfl inT2 (by decide) (by decide) rfl rfl tb_55 dX2_payNow_1)
  (zc_so (si_iflt F dX2_payNow_4 rfl)
  (zc_so (si_aload_n F dX2_payNow_7 rfl)
  (zc_so (si_getI (k := 11) F rfl inT2 (by decide) (by decide) rfl rfl tb_55 dX2_payNow_8)
  (zc_so (si_rI F hQ hn hz hlocks hr (fun _ _ => rfl) dX2_payNow_11)
  (zc_so (si_aload_n F dX2_payNow_12 rfl)
  (zc_so (si_getR (k := 10) F rfl inT2 (by decide) (by decide) rfl rfl tb_53 dX2_payNow_13)
  (zc_so (si_ifnonnull F dX2_payNow_16 rfl)
  (zc_so (si_bipush F dX2_payNow_19 rfl)
  (zc_so (si_goto F dX2_payNow_21 rfl)
  (zc_so (si_aload_n F dX2_payNow_24 rfl)
  (zc_so (si_getR (k := 10) F rfl inT2 (by decide) (by decide) rfl rfl tb_53 dX2_payNow_25)
  (zc_so (si_getI (k := 2) F rfl inT4 (by decide) (by decide) rfl rfl tb_148 dX2_payNow_28)
  (zc_so (si_rI F hQ hn hz hlocks hr (fun _ _ => rfl) dX2_payNow_31)
  (zc_nil)))))))))))))))
theorem sd213 (F : zFx p l R s m args meth c D cid kv N0 xs Ls RX2 cX2_payNow 1 n0 z0 nF zE d) (IH : zAllM l D cid kv N0 xs Ls d) (hQ : ∀ v h, Qq v h → v = r0 ∧ h = hF) (hn : nF = zN hF) (hz : zE = zZ hF) (hlocks : meth.locks = false) (hr : meth.sig.returnType = (some .int)) (pc : Nat) : zSo p l e R s m args below meth c D cid kv N0 xs Ls 1 (MQ below (zQc D cid kv N0 xs Ls ρ0 r0 hF) args s (nF - n0) (zE - z0) (zA N0)) ρ0 n0 z0 nF zE Qq (zCall d) pc (zTab 213 pc) := zc_tab [zt213_0] (zc_cons (sd213_0 F IH hQ hn hz hlocks hr) zc_end)
theorem dX2_anotherAtBar_0 : decode cX2_anotherAtBar 0 = .ok (.aload_n 0, 1) := by decide +kernel
theorem dX2_anotherAtBar_1 : decode cX2_anotherAtBar 1 = .ok (.iconst 5, 1) := by decide +kernel
theorem dX2_anotherAtBar_2 : decode cX2_anotherAtBar 2 = .ok (.invokevirtual 95, 3) := by decide +kernel
theorem dX2_anotherAtBar_5 : decode cX2_anotherAtBar 5 = .ok (.iconst 1, 1) := by decide +kernel
theorem dX2_anotherAtBar_6 : decode cX2_anotherAtBar 6 = .ok (.iload_n 1, 1) := by decide +kernel
theorem dX2_anotherAtBar_7 : decode cX2_anotherAtBar 7 = .ok (.ishl, 1) := by decide +kernel
theorem dX2_anotherAtBar_8 : decode cX2_anotherAtBar 8 = .ok (.iconst (-1), 1) := by decide +kernel
theorem dX2_anotherAtBar_9 : decode cX2_anotherAtBar 9 = .ok (.ixor, 1) := by decide +kernel
theorem dX2_anotherAtBar_10 : decode cX2_anotherAtBar 10 = .ok (.iand, 1) := by decide +kernel
theorem dX2_anotherAtBar_11 : decode cX2_anotherAtBar 11 = .ok (.ifCond .eq 7, 3) := by decide +kernel
theorem dX2_anotherAtBar_14 : decode cX2_anotherAtBar 14 = .ok (.iconst 1, 1) := by decide +kernel
theorem dX2_anotherAtBar_15 : decode cX2_anotherAtBar 15 = .ok (.goto 4, 3) := by decide +kernel
theorem dX2_anotherAtBar_18 : decode cX2_anotherAtBar 18 = .ok (.iconst 0, 1) := by decide +kernel
theorem dX2_anotherAtBar_19 : decode cX2_anotherAtBar 19 = .ok (.ireturn, 1) := by decide +kernel
theorem sd214_0 (F : zFx p l R s m args meth c D cid kv N0 xs Ls RX2 cX2_anotherAtBar 2 n0 z0 nF zE d) (IH : zAllM l D cid kv N0 xs Ls d) (hQ : ∀ v h, Qq v h → v = r0 ∧ h = hF) (hn : nF = zN hF) (hz : zE = zZ hF) (hlocks : meth.locks = false) (hr : meth.sig.returnType = (some .boolean)) : zSoL p l e R s m args below meth c D cid kv N0 xs Ls 2 (MQ below (zQc D cid kv N0 xs Ls ρ0 r0 hF) args s (nF - n0) (zE - z0) (zA N0)) ρ0 n0 z0 nF zE Qq (zCall d) zt214_0 := zc_so (si_aload_n F dX2_anotherAtBar_0 rfl)
  (zc_so (si_iconst F dX2_anotherAtBar_1 rfl)
  (zc_so (si_cV F (IH 208 mm208) mp208 (by decide) rfl rfl (by decide) tb_293 mi208 ms208 mn208 mc208 dX2_anotherAtBar_2)
  (zc_so (si_iconst F dX2_anotherAtBar_5 rfl)
  (zc_so (si_iload_n F dX2_anotherAtBar_6 rfl)
  (zc_so (si_ishl F dX2_anotherAtBar_7)
  (zc_so (si_iconst F dX2_anotherAtBar_8 rfl)
  (zc_so (si_ixor F dX2_anotherAtBar_9)
  (zc_so (si_iand F dX2_anotherAtBar_10)
  (zc_so (si_ifeq F dX2_anotherAtBar_11 rfl)
  (zc_so (si_iconst F dX2_anotherAtBar_14 rfl)
  (zc_so (si_goto F dX2_anotherAtBar_15 rfl)
  (zc_so (si_iconst F dX2_anotherAtBar_18 rfl)
  (zc_so (si_rI F hQ hn hz hlocks hr (fun x h => by rcases h with rfl | rfl <;> rfl) dX2_anotherAtBar_19)
  (zc_nil))))))))))))))
theorem sd214 (F : zFx p l R s m args meth c D cid kv N0 xs Ls RX2 cX2_anotherAtBar 2 n0 z0 nF zE d) (IH : zAllM l D cid kv N0 xs Ls d) (hQ : ∀ v h, Qq v h → v = r0 ∧ h = hF) (hn : nF = zN hF) (hz : zE = zZ hF) (hlocks : meth.locks = false) (hr : meth.sig.returnType = (some .boolean)) (pc : Nat) : zSo p l e R s m args below meth c D cid kv N0 xs Ls 2 (MQ below (zQc D cid kv N0 xs Ls ρ0 r0 hF) args s (nF - n0) (zE - z0) (zA N0)) ρ0 n0 z0 nF zE Qq (zCall d) pc (zTab 214 pc) := zc_tab [zt214_0] (zc_cons (sd214_0 F IH hQ hn hz hlocks hr) zc_end)
theorem dX2_valueOf_0 : decode cX2_valueOf 0 = .ok (.iload_n 1, 1) := by decide +kernel
theorem dX2_valueOf_1 : decode cX2_valueOf 1 = .ok (.tableswitch 103 107 119 #[69, 103, 103, 103, 103, 67, 103, 103, 103, 93, 103, 76, 83], 67) := by decide +kernel
theorem dX2_valueOf_68 : decode cX2_valueOf 68 = .ok (.iload_n 2, 1) := by decide +kernel
theorem dX2_valueOf_69 : decode cX2_valueOf 69 = .ok (.ireturn, 1) := by decide +kernel
theorem dX2_valueOf_70 : decode cX2_valueOf 70 = .ok (.aload_n 0, 1) := by decide +kernel
theorem dX2_valueOf_71 : decode cX2_valueOf 71 = .ok (.getfield 9, 3) := by decide +kernel
theorem dX2_valueOf_74 : decode cX2_valueOf 74 = .ok (.iload_n 2, 1) := by decide +kernel
theorem dX2_valueOf_75 : decode cX2_valueOf 75 = .ok (.iaload, 1) := by decide +kernel
theorem dX2_valueOf_76 : decode cX2_valueOf 76 = .ok (.ireturn, 1) := by decide +kernel
theorem dX2_valueOf_77 : decode cX2_valueOf 77 = .ok (.aload_n 0, 1) := by decide +kernel
theorem dX2_valueOf_78 : decode cX2_valueOf 78 = .ok (.getfield 15, 3) := by decide +kernel
theorem dX2_valueOf_81 : decode cX2_valueOf 81 = .ok (.iload_n 2, 1) := by decide +kernel
theorem dX2_valueOf_82 : decode cX2_valueOf 82 = .ok (.iaload, 1) := by decide +kernel
theorem dX2_valueOf_83 : decode cX2_valueOf 83 = .ok (.ireturn, 1) := by decide +kernel
theorem dX2_valueOf_84 : decode cX2_valueOf 84 = .ok (.aload_n 0, 1) := by decide +kernel
theorem dX2_valueOf_85 : decode cX2_valueOf 85 = .ok (.getfield 18, 3) := by decide +kernel
theorem dX2_valueOf_88 : decode cX2_valueOf 88 = .ok (.iload_n 2, 1) := by decide +kernel
theorem dX2_valueOf_89 : decode cX2_valueOf 89 = .ok (.iaload, 1) := by decide +kernel
theorem dX2_valueOf_90 : decode cX2_valueOf 90 = .ok (.bipush 10, 2) := by decide +kernel
theorem dX2_valueOf_92 : decode cX2_valueOf 92 = .ok (.idiv, 1) := by decide +kernel
theorem dX2_valueOf_93 : decode cX2_valueOf 93 = .ok (.ireturn, 1) := by decide +kernel
theorem dX2_valueOf_94 : decode cX2_valueOf 94 = .ok (.aload_n 0, 1) := by decide +kernel
theorem dX2_valueOf_95 : decode cX2_valueOf 95 = .ok (.getfield 24, 3) := by decide +kernel
theorem dX2_valueOf_98 : decode cX2_valueOf 98 = .ok (.iload_n 2, 1) := by decide +kernel
theorem dX2_valueOf_99 : decode cX2_valueOf 99 = .ok (.iaload, 1) := by decide +kernel
theorem dX2_valueOf_100 : decode cX2_valueOf 100 = .ok (.bipush 10, 2) := by decide +kernel
theorem dX2_valueOf_102 : decode cX2_valueOf 102 = .ok (.irem, 1) := by decide +kernel
theorem dX2_valueOf_103 : decode cX2_valueOf 103 = .ok (.ireturn, 1) := by decide +kernel
theorem dX2_valueOf_104 : decode cX2_valueOf 104 = .ok (.aload_n 0, 1) := by decide +kernel
theorem dX2_valueOf_105 : decode cX2_valueOf 105 = .ok (.getfield 46, 3) := by decide +kernel
theorem dX2_valueOf_108 : decode cX2_valueOf 108 = .ok (.bipush 10, 2) := by decide +kernel
theorem dX2_valueOf_110 : decode cX2_valueOf 110 = .ok (.irem, 1) := by decide +kernel
theorem dX2_valueOf_111 : decode cX2_valueOf 111 = .ok (.ireturn, 1) := by decide +kernel
theorem sd215_0 (F : zFx p l R s m args meth c D cid kv N0 xs Ls RX2 cX2_valueOf 3 n0 z0 nF zE d) (IH : zAllM l D cid kv N0 xs Ls d) (hQ : ∀ v h, Qq v h → v = r0 ∧ h = hF) (hn : nF = zN hF) (hz : zE = zZ hF) (hlocks : meth.locks = false) (hr : meth.sig.returnType = (some .int)) : zSoL p l e R s m args below meth c D cid kv N0 xs Ls 3 (MQ below (zQc D cid kv N0 xs Ls ρ0 r0 hF) args s (nF - n0) (zE - z0) (zA N0)) ρ0 n0 z0 nF zE Qq (zCall d) zt215_0 := zc_so (si_iload_n F dX2_valueOf_0 rfl)
  (zc_so (so_swT F.1.1 F.1.2.1 dX2_valueOf_1 rfl rfl ⟨rfl, rfl, ⟨rfl, rfl, ⟨rfl, rfl, ⟨rfl, rfl, ⟨rfl, rfl, ⟨rfl, rfl, ⟨rfl, rfl, ⟨rfl, rfl, ⟨rfl, rfl, ⟨rfl, rfl, ⟨rfl, rfl, ⟨rfl, rfl, ⟨rfl, rfl, trivial⟩⟩⟩⟩⟩⟩⟩⟩⟩⟩⟩⟩⟩)
  (zc_nil))
theorem sd215_1 (F : zFx p l R s m args meth c D cid kv N0 xs Ls RX2 cX2_valueOf 3 n0 z0 nF zE d) (IH : zAllM l D cid kv N0 xs Ls d) (hQ : ∀ v h, Qq v h → v = r0 ∧ h = hF) (hn : nF = zN hF) (hz : zE = zZ hF) (hlocks : meth.locks = false) (hr : meth.sig.returnType = (some .int)) : zSoL p l e R s m args below meth c D cid kv N0 xs Ls 3 (MQ below (zQc D cid kv N0 xs Ls ρ0 r0 hF) args s (nF - n0) (zE - z0) (zA N0)) ρ0 n0 z0 nF zE Qq (zCall d) zt215_1 := zc_so (si_iload_n F dX2_valueOf_68 rfl)
  (zc_so (si_rI F hQ hn hz hlocks hr (fun _ _ => rfl) dX2_valueOf_69)
  (zc_so (si_aload_n F dX2_valueOf_70 rfl)
  (zc_so (si_getR (k := 0) F rfl inT2 (by decide) (by decide) rfl rfl tb_33 dX2_valueOf_71)
  (zc_so (si_iload_n F dX2_valueOf_74 rfl)
  (zc_so (si_iaload F dX2_valueOf_75)
  (zc_so (si_rI F hQ hn hz hlocks hr (fun _ _ => rfl) dX2_valueOf_76)
  (zc_so (si_aload_n F dX2_valueOf_77 rfl)
  (zc_so (si_getR (k := 1) F rfl inT2 (by decide) (by decide) rfl rfl tb_35 dX2_valueOf_78)
  (zc_so (si_iload_n F dX2_valueOf_81 rfl)
  (zc_so (si_iaload F dX2_valueOf_82)
  (zc_so (si_rI F hQ hn hz hlocks hr (fun _ _ => rfl) dX2_valueOf_83)
  (zc_so (si_aload_n F dX2_valueOf_84 rfl)
  (zc_so (si_getR (k := 2) F rfl inT2 (by decide) (by decide) rfl rfl tb_37 dX2_valueOf_85)
  (zc_so (si_iload_n F dX2_valueOf_88 rfl)
  (zc_so (si_iaload F dX2_valueOf_89)
  (zc_so (si_bipush F dX2_valueOf_90 rfl)
  (zc_so (si_idiv F dX2_valueOf_92)
  (zc_so (si_rI F hQ hn hz hlocks hr (fun _ _ => rfl) dX2_valueOf_93)
  (zc_so (si_aload_n F dX2_valueOf_94 rfl)
  (zc_so (si_getR (k := 4) F rfl inT2 (by decide) (by decide) rfl rfl tb_41 dX2_valueOf_95)
  (zc_so (si_iload_n F dX2_valueOf_98 rfl)
  (zc_so (si_iaload F dX2_valueOf_99)
  (zc_so (si_bipush F dX2_valueOf_100 rfl)
  (zc_so (si_irem F dX2_valueOf_102)
  (zc_so (si_rI F hQ hn hz hlocks hr (fun _ _ => rfl) dX2_valueOf_103)
  (zc_so (si_aload_n F dX2_valueOf_104 rfl)
  (zc_so (si_getI (k := 9) F rfl inT2 (by decide) (by decide) rfl rfl tb_51 dX2_valueOf_105)
  (zc_so (si_bipush F dX2_valueOf_108 rfl)
  (zc_so (si_irem F dX2_valueOf_110)
  (zc_so (si_rI F hQ hn hz hlocks hr (fun _ _ => rfl) dX2_valueOf_111)
  (zc_nil)))))))))))))))))))))))))))))))
theorem sd215 (F : zFx p l R s m args meth c D cid kv N0 xs Ls RX2 cX2_valueOf 3 n0 z0 nF zE d) (IH : zAllM l D cid kv N0 xs Ls d) (hQ : ∀ v h, Qq v h → v = r0 ∧ h = hF) (hn : nF = zN hF) (hz : zE = zZ hF) (hlocks : meth.locks = false) (hr : meth.sig.returnType = (some .int)) (pc : Nat) : zSo p l e R s m args below meth c D cid kv N0 xs Ls 3 (MQ below (zQc D cid kv N0 xs Ls ρ0 r0 hF) args s (nF - n0) (zE - z0) (zA N0)) ρ0 n0 z0 nF zE Qq (zCall d) pc (zTab 215 pc) := zc_tab [zt215_0, zt215_1] (zc_cons (sd215_0 F IH hQ hn hz hlocks hr) (zc_cons (sd215_1 F IH hQ hn hz hlocks hr) zc_end))
theorem dX3_init_0 : decode cX3_init 0 = .ok (.aload_n 0, 1) := by decide +kernel
theorem dX3_init_1 : decode cX3_init 1 = .ok (.invokespecial 3, 3) := by decide +kernel
theorem dX3_init_4 : decode cX3_init 4 = .ok (.iload_n 1, 1) := by decide +kernel
theorem dX3_init_5 : decode cX3_init 5 = .ok (.iconst 0, 1) := by decide +kernel
theorem dX3_init_6 : decode cX3_init 6 = .ok (.invokestatic 9, 3) := by decide +kernel
theorem dX3_init_9 : decode cX3_init 9 = .ok (.istore_n 2, 1) := by decide +kernel
theorem dX3_init_10 : decode cX3_init 10 = .ok (.aload_n 0, 1) := by decide +kernel
theorem dX3_init_11 : decode cX3_init 11 = .ok (.iload_n 2, 1) := by decide +kernel
theorem dX3_init_12 : decode cX3_init 12 = .ok (.newarray .int, 2) := by decide +kernel
theorem dX3_init_14 : decode cX3_init 14 = .ok (.putfield 15, 3) := by decide +kernel
theorem dX3_init_17 : decode cX3_init 17 = .ok (.aload_n 0, 1) := by decide +kernel
theorem dX3_init_18 : decode cX3_init 18 = .ok (.iload_n 2, 1) := by decide +kernel
theorem dX3_init_19 : decode cX3_init 19 = .ok (.newarray .int, 2) := by decide +kernel
theorem dX3_init_21 : decode cX3_init 21 = .ok (.putfield 21, 3) := by decide +kernel
theorem dX3_init_24 : decode cX3_init 24 = .ok (.aload_n 0, 1) := by decide +kernel
theorem dX3_init_25 : decode cX3_init 25 = .ok (.iload_n 2, 1) := by decide +kernel
theorem dX3_init_26 : decode cX3_init 26 = .ok (.newarray .int, 2) := by decide +kernel
theorem dX3_init_28 : decode cX3_init 28 = .ok (.putfield 24, 3) := by decide +kernel
theorem dX3_init_31 : decode cX3_init 31 = .ok (.return_, 1) := by decide +kernel
theorem sd301_0 (F : zFx p l R s m args meth c D cid kv N0 xs Ls RX3 cX3_init 3 n0 z0 nF zE d) (IH : zAllM l D cid kv N0 xs Ls d) (hQ : ∀ v h, Qq v h → v = r0 ∧ h = hF) (hn : nF = zN hF) (hz : zE = zZ hF) (hlocks : meth.locks = false) (hr : meth.sig.returnType = none) (hin : meth.name = "<init>") : zSoL p l e R s m args below meth c D cid kv N0 xs Ls 3 (MQ below (zQc D cid kv N0 xs Ls ρ0 r0 hF) args s (nF - n0) (zE - z0) (zA N0)) ρ0 n0 z0 nF zE Qq (zCall d) zt301_0 := zc_so (si_aload_n F dX3_init_0 rfl)
  (zc_so (si_oinit F tb_95 tb_23 tb_24 dX3_init_1)
  (zc_so (si_iload_n F dX3_init_4 rfl)
  (zc_so (si_iconst F dX3_init_5 rfl)
  (zc_so (si_max F tb_96 tb_97 tb_5 tb_98 dX3_init_6)
  (zc_so (si_istore_n F dX3_init_9 rfl)
  (zc_so (si_aload_n F dX3_init_10 rfl)
  (zc_so (si_iload_n F dX3_init_11 rfl)
  (zc_so (so_naI (ty := .int) (atype := .int) F.1 F.2.1 (by decide) (by decide) rfl rfl (fun C h => by cases h) (by decide) rfl (F.1.2.2.2.2 _ tb_82) F.2.2.2.2.1 F.2.2.1 F.2.2.2.1 dX3_init_12)
  (zc_so (si_putRF (k := 0) F rfl inT3 (by decide) (by decide) rfl rfl rfl (fun o => by cases o <;> exact ⟨rfl, rfl⟩) rfl hin rfl tyX3_ok nmX3 tb_99 dX3_init_14)
  (zc_so (si_aload_n F dX3_init_17 rfl)
  (zc_so (si_iload_n F dX3_init_18 rfl)
  (zc_so (so_naI (ty := .int) (atype := .int) F.1 F.2.1 (by decide) (by decide) rfl rfl (fun C h => by cases h) (by decide) rfl (F.1.2.2.2.2 _ tb_82) F.2.2.2.2.1 F.2.2.1 F.2.2.2.1 dX3_init_19)
  (zc_so (si_putRF (k := 1) F rfl inT3 (by decide) (by decide) rfl rfl rfl (fun o => by cases o <;> exact ⟨rfl, rfl⟩) rfl hin rfl tyX3_ok nmX3 tb_102 dX3_init_21)
  (zc_so (si_aload_n F dX3_init_24 rfl)
  (zc_so (si_iload_n F dX3_init_25 rfl)
  (zc_so (so_naI (ty := .int) (atype := .int) F.1 F.2.1 (by decide) (by decide) rfl rfl (fun C h => by cases h) (by decide) rfl (F.1.2.2.2.2 _ tb_82) F.2.2.2.2.1 F.2.2.1 F.2.2.2.1 dX3_init_26)
  (zc_so (si_putRF (k := 2) F rfl inT3 (by decide) (by decide) rfl rfl rfl (fun o => by cases o <;> exact ⟨rfl, rfl⟩) rfl hin rfl tyX3_ok nmX3 tb_105 dX3_init_28)
  (zc_so (si_rV F hQ hn hz hlocks hr dX3_init_31)
  (zc_nil)))))))))))))))))))
theorem sd301 (F : zFx p l R s m args meth c D cid kv N0 xs Ls RX3 cX3_init 3 n0 z0 nF zE d) (IH : zAllM l D cid kv N0 xs Ls d) (hQ : ∀ v h, Qq v h → v = r0 ∧ h = hF) (hn : nF = zN hF) (hz : zE = zZ hF) (hlocks : meth.locks = false) (hr : meth.sig.returnType = none) (hin : meth.name = "<init>") (pc : Nat) : zSo p l e R s m args below meth c D cid kv N0 xs Ls 3 (MQ below (zQc D cid kv N0 xs Ls ρ0 r0 hF) args s (nF - n0) (zE - z0) (zA N0)) ρ0 n0 z0 nF zE Qq (zCall d) pc (zTab 301 pc) := zc_tab [zt301_0] (zc_cons (sd301_0 F IH hQ hn hz hlocks hr hin) zc_end)
theorem dX3_empty_0 : decode cX3_empty 0 = .ok (.aload_n 0, 1) := by decide +kernel
theorem dX3_empty_1 : decode cX3_empty 1 = .ok (.iconst 0, 1) := by decide +kernel
theorem dX3_empty_2 : decode cX3_empty 2 = .ok (.putfield 27, 3) := by decide +kernel
theorem dX3_empty_5 : decode cX3_empty 5 = .ok (.aload_n 0, 1) := by decide +kernel
theorem dX3_empty_6 : decode cX3_empty 6 = .ok (.getfield 27, 3) := by decide +kernel
theorem dX3_empty_9 : decode cX3_empty 9 = .ok (.ireturn, 1) := by decide +kernel
theorem sd302_0 (F : zFx p l R s m args meth c D cid kv N0 xs Ls RX3 cX3_empty 1 n0 z0 nF zE d) (IH : zAllM l D cid kv N0 xs Ls d) (hQ : ∀ v h, Qq v h → v = r0 ∧ h = hF) (hn : nF = zN hF) (hz : zE = zZ hF) (hlocks : meth.locks = false) (hr : meth.sig.returnType = (some .int)) : zSoL p l e R s m args below meth c D cid kv N0 xs Ls 1 (MQ below (zQc D cid kv N0 xs Ls ρ0 r0 hF) args s (nF - n0) (zE - z0) (zA N0)) ρ0 n0 z0 nF zE Qq (zCall d) zt302_0 := zc_so (si_aload_n F dX3_empty_0 rfl)
  (zc_so (si_iconst F dX3_empty_1 rfl)
  (zc_so (si_putI (k := 3) F rfl inT3 (by decide) (by decide) rfl rfl rfl rfl tyX3_ok nmX3 tb_107 dX3_empty_2)
  (zc_so (si_aload_n F dX3_empty_5 rfl)
  (zc_so (si_getI (k := 3) F rfl inT3 (by decide) (by decide) rfl rfl tb_107 dX3_empty_6)
  (zc_so (si_rI F hQ hn hz hlocks hr (fun _ _ => rfl) dX3_empty_9)
  (zc_nil))))))
theorem sd302 (F : zFx p l R s m args meth c D cid kv N0 xs Ls RX3 cX3_empty 1 n0 z0 nF zE d) (IH : zAllM l D cid kv N0 xs Ls d) (hQ : ∀ v h, Qq v h → v = r0 ∧ h = hF) (hn : nF = zN hF) (hz : zE = zZ hF) (hlocks : meth.locks = false) (hr : meth.sig.returnType = (some .int)) (pc : Nat) : zSo p l e R s m args below meth c D cid kv N0 xs Ls 1 (MQ below (zQc D cid kv N0 xs Ls ρ0 r0 hF) args s (nF - n0) (zE - z0) (zA N0)) ρ0 n0 z0 nF zE Qq (zCall d) pc (zTab 302 pc) := zc_tab [zt302_0] (zc_cons (sd302_0 F IH hQ hn hz hlocks hr) zc_end)
theorem dX3_add_0 : decode cX3_add 0 = .ok (.aload_n 0, 1) := by decide +kernel
theorem dX3_add_1 : decode cX3_add 1 = .ok (.getfield 27, 3) := by decide +kernel
theorem dX3_add_4 : decode cX3_add 4 = .ok (.aload_n 0, 1) := by decide +kernel
theorem dX3_add_5 : decode cX3_add 5 = .ok (.getfield 15, 3) := by decide +kernel
theorem dX3_add_8 : decode cX3_add 8 = .ok (.arraylength, 1) := by decide +kernel
theorem dX3_add_9 : decode cX3_add 9 = .ok (.if_icmp .lt 6, 3) := by decide +kernel
theorem dX3_add_12 : decode cX3_add 12 = .ok (.bipush (-4), 2) := by decide +kernel
theorem dX3_add_14 : decode cX3_add 14 = .ok (.ireturn, 1) := by decide +kernel
theorem dX3_add_15 : decode cX3_add 15 = .ok (.aload_n 0, 1) := by decide +kernel
theorem dX3_add_16 : decode cX3_add 16 = .ok (.getfield 15, 3) := by decide +kernel
theorem dX3_add_19 : decode cX3_add 19 = .ok (.aload_n 0, 1) := by decide +kernel
theorem dX3_add_20 : decode cX3_add 20 = .ok (.getfield 27, 3) := by decide +kernel
theorem dX3_add_23 : decode cX3_add 23 = .ok (.iload_n 1, 1) := by decide +kernel
theorem dX3_add_24 : decode cX3_add 24 = .ok (.iastore, 1) := by decide +kernel
theorem dX3_add_25 : decode cX3_add 25 = .ok (.aload_n 0, 1) := by decide +kernel
theorem dX3_add_26 : decode cX3_add 26 = .ok (.getfield 21, 3) := by decide +kernel
theorem dX3_add_29 : decode cX3_add 29 = .ok (.aload_n 0, 1) := by decide +kernel
theorem dX3_add_30 : decode cX3_add 30 = .ok (.getfield 27, 3) := by decide +kernel
theorem dX3_add_33 : decode cX3_add 33 = .ok (.iload_n 2, 1) := by decide +kernel
theorem dX3_add_34 : decode cX3_add 34 = .ok (.iastore, 1) := by decide +kernel
theorem dX3_add_35 : decode cX3_add 35 = .ok (.aload_n 0, 1) := by decide +kernel
theorem dX3_add_36 : decode cX3_add 36 = .ok (.getfield 24, 3) := by decide +kernel
theorem dX3_add_39 : decode cX3_add 39 = .ok (.aload_n 0, 1) := by decide +kernel
theorem dX3_add_40 : decode cX3_add 40 = .ok (.getfield 27, 3) := by decide +kernel
theorem dX3_add_43 : decode cX3_add 43 = .ok (.iload_n 3, 1) := by decide +kernel
theorem dX3_add_44 : decode cX3_add 44 = .ok (.iastore, 1) := by decide +kernel
theorem dX3_add_45 : decode cX3_add 45 = .ok (.aload_n 0, 1) := by decide +kernel
theorem dX3_add_46 : decode cX3_add 46 = .ok (.dup, 1) := by decide +kernel
theorem dX3_add_47 : decode cX3_add 47 = .ok (.getfield 27, 3) := by decide +kernel
theorem dX3_add_50 : decode cX3_add 50 = .ok (.iconst 1, 1) := by decide +kernel
theorem dX3_add_51 : decode cX3_add 51 = .ok (.iadd, 1) := by decide +kernel
theorem dX3_add_52 : decode cX3_add 52 = .ok (.putfield 27, 3) := by decide +kernel
theorem dX3_add_55 : decode cX3_add 55 = .ok (.aload_n 0, 1) := by decide +kernel
theorem dX3_add_56 : decode cX3_add 56 = .ok (.getfield 27, 3) := by decide +kernel
theorem dX3_add_59 : decode cX3_add 59 = .ok (.ireturn, 1) := by decide +kernel
theorem sd303_0 (F : zFx p l R s m args meth c D cid kv N0 xs Ls RX3 cX3_add 4 n0 z0 nF zE d) (IH : zAllM l D cid kv N0 xs Ls d) (hQ : ∀ v h, Qq v h → v = r0 ∧ h = hF) (hn : nF = zN hF) (hz : zE = zZ hF) (hlocks : meth.locks = false) (hr : meth.sig.returnType = (some .int)) : zSoL p l e R s m args below meth c D cid kv N0 xs Ls 4 (MQ below (zQc D cid kv N0 xs Ls ρ0 r0 hF) args s (nF - n0) (zE - z0) (zA N0)) ρ0 n0 z0 nF zE Qq (zCall d) zt303_0 := zc_so (si_aload_n F dX3_add_0 rfl)
  (zc_so (si_getI (k := 3) F rfl inT3 (by decide) (by decide) rfl rfl tb_107 dX3_add_1)
  (zc_so (si_aload_n F dX3_add_4 rfl)
  (zc_so (si_getR (k := 0) F rfl inT3 (by decide) (by decide) rfl rfl tb_99 dX3_add_5)
  (zc_so (si_arraylength F (by decide) (by decide) rfl dX3_add_8)
  (zc_so (si_iclt F dX3_add_9 rfl)
  (zc_so (si_bipush F dX3_add_12 rfl)
  (zc_so (si_rI F hQ hn hz hlocks hr (fun _ _ => rfl) dX3_add_14)
  (zc_so (si_aload_n F dX3_add_15 rfl)
  (zc_so (si_getR (k := 0) F rfl inT3 (by decide) (by decide) rfl rfl tb_99 dX3_add_16)
  (zc_so (si_aload_n F dX3_add_19 rfl)
  (zc_so (si_getI (k := 3) F rfl inT3 (by decide) (by decide) rfl rfl tb_107 dX3_add_20)
  (zc_so (si_iload_n F dX3_add_23 rfl)
  (zc_so (si_iastore F dX3_add_24)
  (zc_so (si_aload_n F dX3_add_25 rfl)
  (zc_so (si_getR (k := 1) F rfl inT3 (by decide) (by decide) rfl rfl tb_102 dX3_add_26)
  (zc_so (si_aload_n F dX3_add_29 rfl)
  (zc_so (si_getI (k := 3) F rfl inT3 (by decide) (by decide) rfl rfl tb_107 dX3_add_30)
  (zc_so (si_iload_n F dX3_add_33 rfl)
  (zc_so (si_iastore F dX3_add_34)
  (zc_so (si_aload_n F dX3_add_35 rfl)
  (zc_so (si_getR (k := 2) F rfl inT3 (by decide) (by decide) rfl rfl tb_105 dX3_add_36)
  (zc_so (si_aload_n F dX3_add_39 rfl)
  (zc_so (si_getI (k := 3) F rfl inT3 (by decide) (by decide) rfl rfl tb_107 dX3_add_40)
  (zc_so (si_iload_n F dX3_add_43 rfl)
  (zc_so (si_iastore F dX3_add_44)
  (zc_so (si_aload_n F dX3_add_45 rfl)
  (zc_so (si_dup F dX3_add_46)
  (zc_so (si_getI (k := 3) F rfl inT3 (by decide) (by decide) rfl rfl tb_107 dX3_add_47)
  (zc_so (si_iconst F dX3_add_50 rfl)
  (zc_so (si_iadd F dX3_add_51)
  (zc_so (si_putI (k := 3) F rfl inT3 (by decide) (by decide) rfl rfl rfl rfl tyX3_ok nmX3 tb_107 dX3_add_52)
  (zc_so (si_aload_n F dX3_add_55 rfl)
  (zc_so (si_getI (k := 3) F rfl inT3 (by decide) (by decide) rfl rfl tb_107 dX3_add_56)
  (zc_so (si_rI F hQ hn hz hlocks hr (fun _ _ => rfl) dX3_add_59)
  (zc_nil)))))))))))))))))))))))))))))))))))
theorem sd303 (F : zFx p l R s m args meth c D cid kv N0 xs Ls RX3 cX3_add 4 n0 z0 nF zE d) (IH : zAllM l D cid kv N0 xs Ls d) (hQ : ∀ v h, Qq v h → v = r0 ∧ h = hF) (hn : nF = zN hF) (hz : zE = zZ hF) (hlocks : meth.locks = false) (hr : meth.sig.returnType = (some .int)) (pc : Nat) : zSo p l e R s m args below meth c D cid kv N0 xs Ls 4 (MQ below (zQc D cid kv N0 xs Ls ρ0 r0 hF) args s (nF - n0) (zE - z0) (zA N0)) ρ0 n0 z0 nF zE Qq (zCall d) pc (zTab 303 pc) := zc_tab [zt303_0] (zc_cons (sd303_0 F IH hQ hn hz hlocks hr) zc_end)
theorem dX3_copy_0 : decode cX3_copy 0 = .ok (.aload_n 0, 1) := by decide +kernel
theorem dX3_copy_1 : decode cX3_copy 1 = .ok (.aload_n 1, 1) := by decide +kernel
theorem dX3_copy_2 : decode cX3_copy 2 = .ok (.getfield 27, 3) := by decide +kernel
theorem dX3_copy_5 : decode cX3_copy 5 = .ok (.aload_n 0, 1) := by decide +kernel
theorem dX3_copy_6 : decode cX3_copy 6 = .ok (.getfield 15, 3) := by decide +kernel
theorem dX3_copy_9 : decode cX3_copy 9 = .ok (.arraylength, 1) := by decide +kernel
theorem dX3_copy_10 : decode cX3_copy 10 = .ok (.invokestatic 31, 3) := by decide +kernel
theorem dX3_copy_13 : decode cX3_copy 13 = .ok (.putfield 27, 3) := by decide +kernel
theorem dX3_copy_16 : decode cX3_copy 16 = .ok (.iconst 0, 1) := by decide +kernel
theorem dX3_copy_17 : decode cX3_copy 17 = .ok (.istore_n 2, 1) := by decide +kernel
theorem dX3_copy_18 : decode cX3_copy 18 = .ok (.iload_n 2, 1) := by decide +kernel
theorem dX3_copy_19 : decode cX3_copy 19 = .ok (.aload_n 0, 1) := by decide +kernel
theorem dX3_copy_20 : decode cX3_copy 20 = .ok (.getfield 27, 3) := by decide +kernel
theorem dX3_copy_23 : decode cX3_copy 23 = .ok (.if_icmp .ge 45, 3) := by decide +kernel
theorem dX3_copy_26 : decode cX3_copy 26 = .ok (.aload_n 0, 1) := by decide +kernel
theorem dX3_copy_27 : decode cX3_copy 27 = .ok (.getfield 15, 3) := by decide +kernel
theorem dX3_copy_30 : decode cX3_copy 30 = .ok (.iload_n 2, 1) := by decide +kernel
theorem dX3_copy_31 : decode cX3_copy 31 = .ok (.aload_n 1, 1) := by decide +kernel
theorem dX3_copy_32 : decode cX3_copy 32 = .ok (.getfield 15, 3) := by decide +kernel
theorem dX3_copy_35 : decode cX3_copy 35 = .ok (.iload_n 2, 1) := by decide +kernel
theorem dX3_copy_36 : decode cX3_copy 36 = .ok (.iaload, 1) := by decide +kernel
theorem dX3_copy_37 : decode cX3_copy 37 = .ok (.iastore, 1) := by decide +kernel
theorem dX3_copy_38 : decode cX3_copy 38 = .ok (.aload_n 0, 1) := by decide +kernel
theorem dX3_copy_39 : decode cX3_copy 39 = .ok (.getfield 21, 3) := by decide +kernel
theorem dX3_copy_42 : decode cX3_copy 42 = .ok (.iload_n 2, 1) := by decide +kernel
theorem dX3_copy_43 : decode cX3_copy 43 = .ok (.aload_n 1, 1) := by decide +kernel
theorem dX3_copy_44 : decode cX3_copy 44 = .ok (.getfield 21, 3) := by decide +kernel
theorem dX3_copy_47 : decode cX3_copy 47 = .ok (.iload_n 2, 1) := by decide +kernel
theorem dX3_copy_48 : decode cX3_copy 48 = .ok (.iaload, 1) := by decide +kernel
theorem dX3_copy_49 : decode cX3_copy 49 = .ok (.iastore, 1) := by decide +kernel
theorem dX3_copy_50 : decode cX3_copy 50 = .ok (.aload_n 0, 1) := by decide +kernel
theorem dX3_copy_51 : decode cX3_copy 51 = .ok (.getfield 24, 3) := by decide +kernel
theorem dX3_copy_54 : decode cX3_copy 54 = .ok (.iload_n 2, 1) := by decide +kernel
theorem dX3_copy_55 : decode cX3_copy 55 = .ok (.aload_n 1, 1) := by decide +kernel
theorem dX3_copy_56 : decode cX3_copy 56 = .ok (.getfield 24, 3) := by decide +kernel
theorem dX3_copy_59 : decode cX3_copy 59 = .ok (.iload_n 2, 1) := by decide +kernel
theorem dX3_copy_60 : decode cX3_copy 60 = .ok (.iaload, 1) := by decide +kernel
theorem dX3_copy_61 : decode cX3_copy 61 = .ok (.iastore, 1) := by decide +kernel
theorem dX3_copy_62 : decode cX3_copy 62 = .ok (.iinc 2 1, 3) := by decide +kernel
theorem dX3_copy_65 : decode cX3_copy 65 = .ok (.goto (-47), 3) := by decide +kernel
theorem dX3_copy_68 : decode cX3_copy 68 = .ok (.return_, 1) := by decide +kernel
theorem sd304_0 (F : zFx p l R s m args meth c D cid kv N0 xs Ls RX3 cX3_copy 3 n0 z0 nF zE d) (IH : zAllM l D cid kv N0 xs Ls d) (hQ : ∀ v h, Qq v h → v = r0 ∧ h = hF) (hn : nF = zN hF) (hz : zE = zZ hF) (hlocks : meth.locks = false) (hr : meth.sig.returnType = none) : zSoL p l e R s m args below meth c D cid kv N0 xs Ls 3 (MQ below (zQc D cid kv N0 xs Ls ρ0 r0 hF) args s (nF - n0) (zE - z0) (zA N0)) ρ0 n0 z0 nF zE Qq (zCall d) zt304_0 := zc_so (si_aload_n F dX3_copy_0 rfl)
  (zc_so (si_aload_n F dX3_copy_1 rfl)
  (zc_so (si_getI (k := 3) F rfl inT3 (by decide) (by decide) rfl rfl tb_107 dX3_copy_2)
  (zc_so (si_aload_n F dX3_copy_5 rfl)
  (zc_so (si_getR (k := 0) F rfl inT3 (by decide) (by decide) rfl rfl tb_99 dX3_copy_6)
  (zc_so (si_arraylength F (by decide) (by decide) rfl dX3_copy_9)
  (zc_so (si_min F tb_604 tb_298 tb_5 tb_299 dX3_copy_10)
  (zc_so (si_putI (k := 3) F rfl inT3 (by decide) (by decide) rfl rfl rfl rfl tyX3_ok nmX3 tb_107 dX3_copy_13)
  (zc_so (si_iconst F dX3_copy_16 rfl)
  (zc_so (si_istore_n F dX3_copy_17 rfl)
  (zc_so (si_iload_n F dX3_copy_18 rfl)
  (zc_so (si_aload_n F dX3_copy_19 rfl)
  (zc_so (si_getI (k := 3) F rfl inT3 (by decide) (by decide) rfl rfl tb_107 dX3_copy_20)
  (zc_so (si_icge F dX3_copy_23 rfl)
  (zc_so (si_aload_n F dX3_copy_26 rfl)
  (zc_so (si_getR (k := 0) F rfl inT3 (by decide) (by decide) rfl rfl tb_99 dX3_copy_27)
  (zc_so (si_iload_n F dX3_copy_30 rfl)
  (zc_so (si_aload_n F dX3_copy_31 rfl)
  (zc_so (si_getR (k := 0) F rfl inT3 (by decide) (by decide) rfl rfl tb_99 dX3_copy_32)
  (zc_so (si_iload_n F dX3_copy_35 rfl)
  (zc_so (si_iaload F dX3_copy_36)
  (zc_so (si_iastore F dX3_copy_37)
  (zc_so (si_aload_n F dX3_copy_38 rfl)
  (zc_so (si_getR (k := 1) F rfl inT3 (by decide) (by decide) rfl rfl tb_102 dX3_copy_39)
  (zc_so (si_iload_n F dX3_copy_42 rfl)
  (zc_so (si_aload_n F dX3_copy_43 rfl)
  (zc_so (si_getR (k := 1) F rfl inT3 (by decide) (by decide) rfl rfl tb_102 dX3_copy_44)
  (zc_so (si_iload_n F dX3_copy_47 rfl)
  (zc_so (si_iaload F dX3_copy_48)
  (zc_so (si_iastore F dX3_copy_49)
  (zc_so (si_aload_n F dX3_copy_50 rfl)
  (zc_so (si_getR (k := 2) F rfl inT3 (by decide) (by decide) rfl rfl tb_105 dX3_copy_51)
  (zc_so (si_iload_n F dX3_copy_54 rfl)
  (zc_so (si_aload_n F dX3_copy_55 rfl)
  (zc_so (si_getR (k := 2) F rfl inT3 (by decide) (by decide) rfl rfl tb_105 dX3_copy_56)
  (zc_so (si_iload_n F dX3_copy_59 rfl)
  (zc_so (si_iaload F dX3_copy_60)
  (zc_so (si_iastore F dX3_copy_61)
  (zc_so (si_iinc F dX3_copy_62 rfl)
  (zc_nil)))))))))))))))))))))))))))))))))))))))
theorem sd304_1 (F : zFx p l R s m args meth c D cid kv N0 xs Ls RX3 cX3_copy 3 n0 z0 nF zE d) (IH : zAllM l D cid kv N0 xs Ls d) (hQ : ∀ v h, Qq v h → v = r0 ∧ h = hF) (hn : nF = zN hF) (hz : zE = zZ hF) (hlocks : meth.locks = false) (hr : meth.sig.returnType = none) : zSoL p l e R s m args below meth c D cid kv N0 xs Ls 3 (MQ below (zQc D cid kv N0 xs Ls ρ0 r0 hF) args s (nF - n0) (zE - z0) (zA N0)) ρ0 n0 z0 nF zE Qq (zCall d) zt304_1 := zc_so (si_goto F dX3_copy_65 rfl)
  (zc_so (si_rV F hQ hn hz hlocks hr dX3_copy_68)
  (zc_nil))
theorem sd304 (F : zFx p l R s m args meth c D cid kv N0 xs Ls RX3 cX3_copy 3 n0 z0 nF zE d) (IH : zAllM l D cid kv N0 xs Ls d) (hQ : ∀ v h, Qq v h → v = r0 ∧ h = hF) (hn : nF = zN hF) (hz : zE = zZ hF) (hlocks : meth.locks = false) (hr : meth.sig.returnType = none) (pc : Nat) : zSo p l e R s m args below meth c D cid kv N0 xs Ls 3 (MQ below (zQc D cid kv N0 xs Ls ρ0 r0 hF) args s (nF - n0) (zE - z0) (zA N0)) ρ0 n0 z0 nF zE Qq (zCall d) pc (zTab 304 pc) := zc_tab [zt304_0, zt304_1] (zc_cons (sd304_0 F IH hQ hn hz hlocks hr) (zc_cons (sd304_1 F IH hQ hn hz hlocks hr) zc_end))
theorem dX4_init_0 : decode cX4_init 0 = .ok (.aload_n 0, 1) := by decide +kernel
theorem dX4_init_1 : decode cX4_init 1 = .ok (.invokespecial 3, 3) := by decide +kernel
theorem dX4_init_4 : decode cX4_init 4 = .ok (.aload_n 0, 1) := by decide +kernel
theorem dX4_init_5 : decode cX4_init 5 = .ok (.bipush 100, 2) := by decide +kernel
theorem dX4_init_7 : decode cX4_init 7 = .ok (.newarray .int, 2) := by decide +kernel
theorem dX4_init_9 : decode cX4_init 9 = .ok (.putfield 9, 3) := by decide +kernel
theorem dX4_init_12 : decode cX4_init 12 = .ok (.return_, 1) := by decide +kernel
theorem sd401_0 (F : zFx p l R s m args meth c D cid kv N0 xs Ls RX4 cX4_init 1 n0 z0 nF zE d) (IH : zAllM l D cid kv N0 xs Ls d) (hQ : ∀ v h, Qq v h → v = r0 ∧ h = hF) (hn : nF = zN hF) (hz : zE = zZ hF) (hlocks : meth.locks = false) (hr : meth.sig.returnType = none) (hin : meth.name = "<init>") : zSoL p l e R s m args below meth c D cid kv N0 xs Ls 1 (MQ below (zQc D cid kv N0 xs Ls ρ0 r0 hF) args s (nF - n0) (zE - z0) (zA N0)) ρ0 n0 z0 nF zE Qq (zCall d) zt401_0 := zc_so (si_aload_n F dX4_init_0 rfl)
  (zc_so (si_oinit F tb_143 tb_23 tb_24 dX4_init_1)
  (zc_so (si_aload_n F dX4_init_4 rfl)
  (zc_so (si_bipush F dX4_init_5 rfl)
  (zc_so (so_naI (ty := .int) (atype := .int) F.1 F.2.1 (by decide) (by decide) rfl rfl (fun C h => by cases h) (by decide) rfl (F.1.2.2.2.2 _ tb_82) F.2.2.2.2.1 F.2.2.1 F.2.2.2.1 dX4_init_7)
  (zc_so (si_putRF (k := 0) F rfl inT4 (by decide) (by decide) rfl rfl rfl (fun o => by cases o <;> exact ⟨rfl, rfl⟩) rfl hin rfl tyX4_ok nmX4 tb_144 dX4_init_9)
  (zc_so (si_rV F hQ hn hz hlocks hr dX4_init_12)
  (zc_nil)))))))
theorem sd401 (F : zFx p l R s m args meth c D cid kv N0 xs Ls RX4 cX4_init 1 n0 z0 nF zE d) (IH : zAllM l D cid kv N0 xs Ls d) (hQ : ∀ v h, Qq v h → v = r0 ∧ h = hF) (hn : nF = zN hF) (hz : zE = zZ hF) (hlocks : meth.locks = false) (hr : meth.sig.returnType = none) (hin : meth.name = "<init>") (pc : Nat) : zSo p l e R s m args below meth c D cid kv N0 xs Ls 1 (MQ below (zQc D cid kv N0 xs Ls ρ0 r0 hF) args s (nF - n0) (zE - z0) (zA N0)) ρ0 n0 z0 nF zE Qq (zCall d) pc (zTab 401 pc) := zc_tab [zt401_0] (zc_cons (sd401_0 F IH hQ hn hz hlocks hr hin) zc_end)
theorem dX4_clear_0 : decode cX4_clear 0 = .ok (.aload_n 0, 1) := by decide +kernel
theorem dX4_clear_1 : decode cX4_clear 1 = .ok (.iconst 0, 1) := by decide +kernel
theorem dX4_clear_2 : decode cX4_clear 2 = .ok (.putfield 15, 3) := by decide +kernel
theorem dX4_clear_5 : decode cX4_clear 5 = .ok (.aload_n 0, 1) := by decide +kernel
theorem dX4_clear_6 : decode cX4_clear 6 = .ok (.bipush 10, 2) := by decide +kernel
theorem dX4_clear_8 : decode cX4_clear 8 = .ok (.putfield 19, 3) := by decide +kernel
theorem dX4_clear_11 : decode cX4_clear 11 = .ok (.return_, 1) := by decide +kernel
theorem sd402_0 (F : zFx p l R s m args meth c D cid kv N0 xs Ls RX4 cX4_clear 1 n0 z0 nF zE d) (IH : zAllM l D cid kv N0 xs Ls d) (hQ : ∀ v h, Qq v h → v = r0 ∧ h = hF) (hn : nF = zN hF) (hz : zE = zZ hF) (hlocks : meth.locks = false) (hr : meth.sig.returnType = none) : zSoL p l e R s m args below meth c D cid kv N0 xs Ls 1 (MQ below (zQc D cid kv N0 xs Ls ρ0 r0 hF) args s (nF - n0) (zE - z0) (zA N0)) ρ0 n0 z0 nF zE Qq (zCall d) zt402_0 := zc_so (si_aload_n F dX4_clear_0 rfl)
  (zc_so (si_iconst F dX4_clear_1 rfl)
  (zc_so (si_putI (k := 1) F rfl inT4 (by decide) (by decide) rfl rfl rfl rfl tyX4_ok nmX4 tb_145 dX4_clear_2)
  (zc_so (si_aload_n F dX4_clear_5 rfl)
  (zc_so (si_bipush F dX4_clear_6 rfl)
  (zc_so (si_putI (k := 2) F rfl inT4 (by decide) (by decide) rfl rfl rfl rfl tyX4_ok nmX4 tb_146 dX4_clear_8)
  (zc_so (si_rV F hQ hn hz hlocks hr dX4_clear_11)
  (zc_nil)))))))
theorem sd402 (F : zFx p l R s m args meth c D cid kv N0 xs Ls RX4 cX4_clear 1 n0 z0 nF zE d) (IH : zAllM l D cid kv N0 xs Ls d) (hQ : ∀ v h, Qq v h → v = r0 ∧ h = hF) (hn : nF = zN hF) (hz : zE = zZ hF) (hlocks : meth.locks = false) (hr : meth.sig.returnType = none) (pc : Nat) : zSo p l e R s m args below meth c D cid kv N0 xs Ls 1 (MQ below (zQc D cid kv N0 xs Ls ρ0 r0 hF) args s (nF - n0) (zE - z0) (zA N0)) ρ0 n0 z0 nF zE Qq (zCall d) pc (zTab 402 pc) := zc_tab [zt402_0] (zc_cons (sd402_0 F IH hQ hn hz hlocks hr) zc_end)
theorem dX4_add_0 : decode cX4_add 0 = .ok (.aload_n 0, 1) := by decide +kernel
theorem dX4_add_1 : decode cX4_add 1 = .ok (.getfield 15, 3) := by decide +kernel
theorem dX4_add_4 : decode cX4_add 4 = .ok (.bipush 100, 2) := by decide +kernel
theorem dX4_add_6 : decode cX4_add 6 = .ok (.if_icmp .ge 33, 3) := by decide +kernel
theorem dX4_add_9 : decode cX4_add 9 = .ok (.aload_n 0, 1) := by decide +kernel
theorem dX4_add_10 : decode cX4_add 10 = .ok (.getfield 9, 3) := by decide +kernel
theorem dX4_add_13 : decode cX4_add 13 = .ok (.aload_n 0, 1) := by decide +kernel
theorem dX4_add_14 : decode cX4_add 14 = .ok (.getfield 15, 3) := by decide +kernel
theorem dX4_add_17 : decode cX4_add 17 = .ok (.iload_n 1, 1) := by decide +kernel
theorem dX4_add_18 : decode cX4_add 18 = .ok (.bipush 16, 2) := by decide +kernel
theorem dX4_add_20 : decode cX4_add 20 = .ok (.ishl, 1) := by decide +kernel
theorem dX4_add_21 : decode cX4_add 21 = .ok (.iload_n 2, 1) := by decide +kernel
theorem dX4_add_22 : decode cX4_add 22 = .ok (.bipush 8, 2) := by decide +kernel
theorem dX4_add_24 : decode cX4_add 24 = .ok (.ishl, 1) := by decide +kernel
theorem dX4_add_25 : decode cX4_add 25 = .ok (.ior, 1) := by decide +kernel
theorem dX4_add_26 : decode cX4_add 26 = .ok (.iload_n 3, 1) := by decide +kernel
theorem dX4_add_27 : decode cX4_add 27 = .ok (.ior, 1) := by decide +kernel
theorem dX4_add_28 : decode cX4_add 28 = .ok (.iastore, 1) := by decide +kernel
theorem dX4_add_29 : decode cX4_add 29 = .ok (.aload_n 0, 1) := by decide +kernel
theorem dX4_add_30 : decode cX4_add 30 = .ok (.dup, 1) := by decide +kernel
theorem dX4_add_31 : decode cX4_add 31 = .ok (.getfield 15, 3) := by decide +kernel
theorem dX4_add_34 : decode cX4_add 34 = .ok (.iconst 1, 1) := by decide +kernel
theorem dX4_add_35 : decode cX4_add 35 = .ok (.iadd, 1) := by decide +kernel
theorem dX4_add_36 : decode cX4_add 36 = .ok (.putfield 15, 3) := by decide +kernel
theorem dX4_add_39 : decode cX4_add 39 = .ok (.return_, 1) := by decide +kernel
theorem sd403_0 (F : zFx p l R s m args meth c D cid kv N0 xs Ls RX4 cX4_add 4 n0 z0 nF zE d) (IH : zAllM l D cid kv N0 xs Ls d) (hQ : ∀ v h, Qq v h → v = r0 ∧ h = hF) (hn : nF = zN hF) (hz : zE = zZ hF) (hlocks : meth.locks = false) (hr : meth.sig.returnType = none) : zSoL p l e R s m args below meth c D cid kv N0 xs Ls 4 (MQ below (zQc D cid kv N0 xs Ls ρ0 r0 hF) args s (nF - n0) (zE - z0) (zA N0)) ρ0 n0 z0 nF zE Qq (zCall d) zt403_0 := zc_so (si_aload_n F dX4_add_0 rfl)
  (zc_so (si_getI (k := 1) F rfl inT4 (by decide) (by decide) rfl rfl tb_145 dX4_add_1)
  (zc_so (si_bipush F dX4_add_4 rfl)
  (zc_so (si_icge F dX4_add_6 rfl)
  (zc_so (si_aload_n F dX4_add_9 rfl)
  (zc_so (si_getR (k := 0) F rfl inT4 (by decide) (by decide) rfl rfl tb_144 dX4_add_10)
  (zc_so (si_aload_n F dX4_add_13 rfl)
  (zc_so (si_getI (k := 1) F rfl inT4 (by decide) (by decide) rfl rfl tb_145 dX4_add_14)
  (zc_so (si_iload_n F dX4_add_17 rfl)
  (zc_so (si_bipush F dX4_add_18 rfl)
  (zc_so (si_ishl F dX4_add_20)
  (zc_so (si_iload_n F dX4_add_21 rfl)
  (zc_so (si_bipush F dX4_add_22 rfl)
  (zc_so (si_ishl F dX4_add_24)
  (zc_so (si_ior F dX4_add_25)
  (zc_so (si_iload_n F dX4_add_26 rfl)
  (zc_so (si_ior F dX4_add_27)
  (zc_so (si_iastore F dX4_add_28)
  (zc_so (si_aload_n F dX4_add_29 rfl)
  (zc_so (si_dup F dX4_add_30)
  (zc_so (si_getI (k := 1) F rfl inT4 (by decide) (by decide) rfl rfl tb_145 dX4_add_31)
  (zc_so (si_iconst F dX4_add_34 rfl)
  (zc_so (si_iadd F dX4_add_35)
  (zc_so (si_putI (k := 1) F rfl inT4 (by decide) (by decide) rfl rfl rfl rfl tyX4_ok nmX4 tb_145 dX4_add_36)
  (zc_so (si_rV F hQ hn hz hlocks hr dX4_add_39)
  (zc_nil)))))))))))))))))))))))))
theorem sd403 (F : zFx p l R s m args meth c D cid kv N0 xs Ls RX4 cX4_add 4 n0 z0 nF zE d) (IH : zAllM l D cid kv N0 xs Ls d) (hQ : ∀ v h, Qq v h → v = r0 ∧ h = hF) (hn : nF = zN hF) (hz : zE = zZ hF) (hlocks : meth.locks = false) (hr : meth.sig.returnType = none) (pc : Nat) : zSo p l e R s m args below meth c D cid kv N0 xs Ls 4 (MQ below (zQc D cid kv N0 xs Ls ρ0 r0 hF) args s (nF - n0) (zE - z0) (zA N0)) ρ0 n0 z0 nF zE Qq (zCall d) pc (zTab 403 pc) := zc_tab [zt403_0] (zc_cons (sd403_0 F IH hQ hn hz hlocks hr) zc_end)
theorem dX4_extraFor_0 : decode cX4_extraFor 0 = .ok (.iconst 0, 1) := by decide +kernel
theorem dX4_extraFor_1 : decode cX4_extraFor 1 = .ok (.istore_n 3, 1) := by decide +kernel
theorem dX4_extraFor_2 : decode cX4_extraFor 2 = .ok (.iconst 0, 1) := by decide +kernel
theorem dX4_extraFor_3 : decode cX4_extraFor 3 = .ok (.istore 4, 2) := by decide +kernel
theorem dX4_extraFor_5 : decode cX4_extraFor 5 = .ok (.iconst 0, 1) := by decide +kernel
theorem dX4_extraFor_6 : decode cX4_extraFor 6 = .ok (.istore 5, 2) := by decide +kernel
theorem dX4_extraFor_8 : decode cX4_extraFor 8 = .ok (.iload 5, 2) := by decide +kernel
theorem dX4_extraFor_10 : decode cX4_extraFor 10 = .ok (.aload_n 0, 1) := by decide +kernel
theorem dX4_extraFor_11 : decode cX4_extraFor 11 = .ok (.getfield 15, 3) := by decide +kernel
theorem dX4_extraFor_14 : decode cX4_extraFor 14 = .ok (.if_icmp .ge 197, 3) := by decide +kernel
theorem dX4_extraFor_17 : decode cX4_extraFor 17 = .ok (.aload_n 0, 1) := by decide +kernel
theorem dX4_extraFor_18 : decode cX4_extraFor 18 = .ok (.getfield 9, 3) := by decide +kernel
theorem dX4_extraFor_21 : decode cX4_extraFor 21 = .ok (.iload 5, 2) := by decide +kernel
theorem dX4_extraFor_23 : decode cX4_extraFor 23 = .ok (.iaload, 1) := by decide +kernel
theorem dX4_extraFor_24 : decode cX4_extraFor 24 = .ok (.bipush 16, 2) := by decide +kernel
theorem dX4_extraFor_26 : decode cX4_extraFor 26 = .ok (.ishr, 1) := by decide +kernel
theorem dX4_extraFor_27 : decode cX4_extraFor 27 = .ok (.istore 6, 2) := by decide +kernel
theorem dX4_extraFor_29 : decode cX4_extraFor 29 = .ok (.aload_n 0, 1) := by decide +kernel
theorem dX4_extraFor_30 : decode cX4_extraFor 30 = .ok (.getfield 9, 3) := by decide +kernel
theorem dX4_extraFor_33 : decode cX4_extraFor 33 = .ok (.iload 5, 2) := by decide +kernel
theorem dX4_extraFor_35 : decode cX4_extraFor 35 = .ok (.iaload, 1) := by decide +kernel
theorem dX4_extraFor_36 : decode cX4_extraFor 36 = .ok (.sipush 255, 3) := by decide +kernel
theorem dX4_extraFor_39 : decode cX4_extraFor 39 = .ok (.iand, 1) := by decide +kernel
theorem dX4_extraFor_40 : decode cX4_extraFor 40 = .ok (.istore 7, 2) := by decide +kernel
theorem dX4_extraFor_42 : decode cX4_extraFor 42 = .ok (.iload 6, 2) := by decide +kernel
theorem dX4_extraFor_44 : decode cX4_extraFor 44 = .ok (.lookupswitch 128 #[(33, 52), (38, 61), (108, 109), (109, 90), (124, 76)], 52) := by decide +kernel
theorem dX4_extraFor_96 : decode cX4_extraFor 96 = .ok (.iload 4, 2) := by decide +kernel
theorem dX4_extraFor_98 : decode cX4_extraFor 98 = .ok (.iconst 1, 1) := by decide +kernel
theorem dX4_extraFor_99 : decode cX4_extraFor 99 = .ok (.ixor, 1) := by decide +kernel
theorem dX4_extraFor_100 : decode cX4_extraFor 100 = .ok (.istore 4, 2) := by decide +kernel
theorem dX4_extraFor_102 : decode cX4_extraFor 102 = .ok (.goto 103, 3) := by decide +kernel
theorem dX4_extraFor_105 : decode cX4_extraFor 105 = .ok (.iload 4, 2) := by decide +kernel
theorem dX4_extraFor_107 : decode cX4_extraFor 107 = .ok (.iconst 1, 1) := by decide +kernel
theorem dX4_extraFor_108 : decode cX4_extraFor 108 = .ok (.ishr, 1) := by decide +kernel
theorem dX4_extraFor_109 : decode cX4_extraFor 109 = .ok (.iload 4, 2) := by decide +kernel
theorem dX4_extraFor_111 : decode cX4_extraFor 111 = .ok (.bipush (-2), 2) := by decide +kernel
theorem dX4_extraFor_113 : decode cX4_extraFor 113 = .ok (.ior, 1) := by decide +kernel
theorem dX4_extraFor_114 : decode cX4_extraFor 114 = .ok (.iand, 1) := by decide +kernel
theorem dX4_extraFor_115 : decode cX4_extraFor 115 = .ok (.istore 4, 2) := by decide +kernel
theorem dX4_extraFor_117 : decode cX4_extraFor 117 = .ok (.goto 88, 3) := by decide +kernel
theorem dX4_extraFor_120 : decode cX4_extraFor 120 = .ok (.iload 4, 2) := by decide +kernel
theorem dX4_extraFor_122 : decode cX4_extraFor 122 = .ok (.iconst 1, 1) := by decide +kernel
theorem dX4_extraFor_123 : decode cX4_extraFor 123 = .ok (.ishr, 1) := by decide +kernel
theorem dX4_extraFor_124 : decode cX4_extraFor 124 = .ok (.iload 4, 2) := by decide +kernel
theorem dX4_extraFor_126 : decode cX4_extraFor 126 = .ok (.iconst 1, 1) := by decide +kernel
theorem dX4_extraFor_127 : decode cX4_extraFor 127 = .ok (.iand, 1) := by decide +kernel
theorem dX4_extraFor_128 : decode cX4_extraFor 128 = .ok (.ior, 1) := by decide +kernel
theorem dX4_extraFor_129 : decode cX4_extraFor 129 = .ok (.istore 4, 2) := by decide +kernel
theorem dX4_extraFor_131 : decode cX4_extraFor 131 = .ok (.goto 74, 3) := by decide +kernel
theorem dX4_extraFor_134 : decode cX4_extraFor 134 = .ok (.iload_n 3, 1) := by decide +kernel
theorem dX4_extraFor_135 : decode cX4_extraFor 135 = .ok (.iload 4, 2) := by decide +kernel
theorem dX4_extraFor_137 : decode cX4_extraFor 137 = .ok (.iconst 1, 1) := by decide +kernel
theorem dX4_extraFor_138 : decode cX4_extraFor 138 = .ok (.iand, 1) := by decide +kernel
theorem dX4_extraFor_139 : decode cX4_extraFor 139 = .ok (.iload 7, 2) := by decide +kernel
theorem dX4_extraFor_141 : decode cX4_extraFor 141 = .ok (.imul, 1) := by decide +kernel
theorem dX4_extraFor_142 : decode cX4_extraFor 142 = .ok (.iadd, 1) := by decide +kernel
theorem dX4_extraFor_143 : decode cX4_extraFor 143 = .ok (.istore_n 3, 1) := by decide +kernel
theorem dX4_extraFor_144 : decode cX4_extraFor 144 = .ok (.iload 4, 2) := by decide +kernel
theorem dX4_extraFor_146 : decode cX4_extraFor 146 = .ok (.iconst 1, 1) := by decide +kernel
theorem dX4_extraFor_147 : decode cX4_extraFor 147 = .ok (.ishr, 1) := by decide +kernel
theorem dX4_extraFor_148 : decode cX4_extraFor 148 = .ok (.istore 4, 2) := by decide +kernel
theorem dX4_extraFor_150 : decode cX4_extraFor 150 = .ok (.goto 55, 3) := by decide +kernel
theorem dX4_extraFor_153 : decode cX4_extraFor 153 = .ok (.iload_n 3, 1) := by decide +kernel
theorem dX4_extraFor_154 : decode cX4_extraFor 154 = .ok (.iload 4, 2) := by decide +kernel
theorem dX4_extraFor_156 : decode cX4_extraFor 156 = .ok (.iconst 1, 1) := by decide +kernel
theorem dX4_extraFor_157 : decode cX4_extraFor 157 = .ok (.iand, 1) := by decide +kernel
theorem dX4_extraFor_158 : decode cX4_extraFor 158 = .ok (.iload 7, 2) := by decide +kernel
theorem dX4_extraFor_160 : decode cX4_extraFor 160 = .ok (.imul, 1) := by decide +kernel
theorem dX4_extraFor_161 : decode cX4_extraFor 161 = .ok (.isub, 1) := by decide +kernel
theorem dX4_extraFor_162 : decode cX4_extraFor 162 = .ok (.istore_n 3, 1) := by decide +kernel
theorem dX4_extraFor_163 : decode cX4_extraFor 163 = .ok (.iload 4, 2) := by decide +kernel
theorem dX4_extraFor_165 : decode cX4_extraFor 165 = .ok (.iconst 1, 1) := by decide +kernel
theorem dX4_extraFor_166 : decode cX4_extraFor 166 = .ok (.ishr, 1) := by decide +kernel
theorem dX4_extraFor_167 : decode cX4_extraFor 167 = .ok (.istore 4, 2) := by decide +kernel
theorem dX4_extraFor_169 : decode cX4_extraFor 169 = .ok (.goto 36, 3) := by decide +kernel
theorem dX4_extraFor_172 : decode cX4_extraFor 172 = .ok (.iload 4, 2) := by decide +kernel
theorem dX4_extraFor_174 : decode cX4_extraFor 174 = .ok (.iconst 1, 1) := by decide +kernel
theorem dX4_extraFor_175 : decode cX4_extraFor 175 = .ok (.ishl, 1) := by decide +kernel
theorem dX4_extraFor_176 : decode cX4_extraFor 176 = .ok (.aload_n 1, 1) := by decide +kernel
theorem dX4_extraFor_177 : decode cX4_extraFor 177 = .ok (.iload 6, 2) := by decide +kernel
theorem dX4_extraFor_179 : decode cX4_extraFor 179 = .ok (.iload_n 2, 1) := by decide +kernel
theorem dX4_extraFor_180 : decode cX4_extraFor 180 = .ok (.invokevirtual 22, 3) := by decide +kernel
theorem dX4_extraFor_183 : decode cX4_extraFor 183 = .ok (.aload_n 0, 1) := by decide +kernel
theorem dX4_extraFor_184 : decode cX4_extraFor 184 = .ok (.getfield 9, 3) := by decide +kernel
theorem dX4_extraFor_187 : decode cX4_extraFor 187 = .ok (.iload 5, 2) := by decide +kernel
theorem dX4_extraFor_189 : decode cX4_extraFor 189 = .ok (.iaload, 1) := by decide +kernel
theorem dX4_extraFor_190 : decode cX4_extraFor 190 = .ok (.bipush 8, 2) := by decide +kernel
theorem dX4_extraFor_192 : decode cX4_extraFor 192 = .ok (.ishr, 1) := by decide +kernel
theorem dX4_extraFor_193 : decode cX4_extraFor 193 = .ok (.sipush 255, 3) := by decide +kernel
theorem dX4_extraFor_196 : decode cX4_extraFor 196 = .ok (.iand, 1) := by decide +kernel
theorem dX4_extraFor_197 : decode cX4_extraFor 197 = .ok (.iload 7, 2) := by decide +kernel
theorem dX4_extraFor_199 : decode cX4_extraFor 199 = .ok (.invokestatic 28, 3) := by decide +kernel
theorem dX4_extraFor_202 : decode cX4_extraFor 202 = .ok (.ior, 1) := by decide +kernel
theorem dX4_extraFor_203 : decode cX4_extraFor 203 = .ok (.istore 4, 2) := by decide +kernel
theorem dX4_extraFor_205 : decode cX4_extraFor 205 = .ok (.iinc 5 1, 3) := by decide +kernel
theorem dX4_extraFor_208 : decode cX4_extraFor 208 = .ok (.goto (-200), 3) := by decide +kernel
theorem dX4_extraFor_211 : decode cX4_extraFor 211 = .ok (.iload_n 3, 1) := by decide +kernel
theorem dX4_extraFor_212 : decode cX4_extraFor 212 = .ok (.ireturn, 1) := by decide +kernel
theorem sd404_0 (F : zFx p l R s m args meth c D cid kv N0 xs Ls RX4 cX4_extraFor 8 n0 z0 nF zE d) (IH : zAllM l D cid kv N0 xs Ls d) (hQ : ∀ v h, Qq v h → v = r0 ∧ h = hF) (hn : nF = zN hF) (hz : zE = zZ hF) (hlocks : meth.locks = false) (hr : meth.sig.returnType = (some .int)) : zSoL p l e R s m args below meth c D cid kv N0 xs Ls 8 (MQ below (zQc D cid kv N0 xs Ls ρ0 r0 hF) args s (nF - n0) (zE - z0) (zA N0)) ρ0 n0 z0 nF zE Qq (zCall d) zt404_0 := zc_so (si_iconst F dX4_extraFor_0 rfl)
  (zc_so (si_istore_n F dX4_extraFor_1 rfl)
  (zc_so (si_iconst F dX4_extraFor_2 rfl)
  (zc_so (si_istore F dX4_extraFor_3)
  (zc_so (si_iconst F dX4_extraFor_5 rfl)
  (zc_so (si_istore F dX4_extraFor_6)
  (zc_so (si_iload F dX4_extraFor_8)
  (zc_so (si_aload_n F dX4_extraFor_10 rfl)
  (zc_so (si_getI (k := 1) F rfl inT4 (by decide) (by decide) rfl rfl tb_145 dX4_extraFor_11)
  (zc_so (si_icge F dX4_extraFor_14 rfl)
  (zc_so (si_aload_n F dX4_extraFor_17 rfl)
  (zc_so (si_getR (k := 0) F rfl inT4 (by decide) (by decide) rfl rfl tb_144 dX4_extraFor_18)
  (zc_so (si_iload F dX4_extraFor_21)
  (zc_so (si_iaload F dX4_extraFor_23)
  (zc_so (si_bipush F dX4_extraFor_24 rfl)
  (zc_so (si_ishr F dX4_extraFor_26)
  (zc_so (si_istore F dX4_extraFor_27)
  (zc_so (si_aload_n F dX4_extraFor_29 rfl)
  (zc_so (si_getR (k := 0) F rfl inT4 (by decide) (by decide) rfl rfl tb_144 dX4_extraFor_30)
  (zc_so (si_iload F dX4_extraFor_33)
  (zc_so (si_iaload F dX4_extraFor_35)
  (zc_so (si_sipush F dX4_extraFor_36 rfl)
  (zc_so (si_iand F dX4_extraFor_39)
  (zc_so (si_istore F dX4_extraFor_40)
  (zc_so (si_iload F dX4_extraFor_42)
  (zc_so (so_swL F.1.1 F.1.2.1 dX4_extraFor_44 (by decide +kernel) rfl ⟨rfl, rfl, ⟨rfl, rfl, ⟨rfl, rfl, ⟨rfl, rfl, ⟨rfl, rfl, trivial⟩⟩⟩⟩⟩)
  (zc_nil))))))))))))))))))))))))))
theorem sd404_1 (F : zFx p l R s m args meth c D cid kv N0 xs Ls RX4 cX4_extraFor 8 n0 z0 nF zE d) (IH : zAllM l D cid kv N0 xs Ls d) (hQ : ∀ v h, Qq v h → v = r0 ∧ h = hF) (hn : nF = zN hF) (hz : zE = zZ hF) (hlocks : meth.locks = false) (hr : meth.sig.returnType = (some .int)) : zSoL p l e R s m args below meth c D cid kv N0 xs Ls 8 (MQ below (zQc D cid kv N0 xs Ls ρ0 r0 hF) args s (nF - n0) (zE - z0) (zA N0)) ρ0 n0 z0 nF zE Qq (zCall d) zt404_1 := zc_so (si_iload F dX4_extraFor_96)
  (zc_so (si_iconst F dX4_extraFor_98 rfl)
  (zc_so (si_ixor F dX4_extraFor_99)
  (zc_so (si_istore F dX4_extraFor_100)
  (zc_so (si_goto F dX4_extraFor_102 rfl)
  (zc_so (si_iload F dX4_extraFor_105)
  (zc_so (si_iconst F dX4_extraFor_107 rfl)
  (zc_so (si_ishr F dX4_extraFor_108)
  (zc_so (si_iload F dX4_extraFor_109)
  (zc_so (si_bipush F dX4_extraFor_111 rfl)
  (zc_so (si_ior F dX4_extraFor_113)
  (zc_so (si_iand F dX4_extraFor_114)
  (zc_so (si_istore F dX4_extraFor_115)
  (zc_so (si_goto F dX4_extraFor_117 rfl)
  (zc_so (si_iload F dX4_extraFor_120)
  (zc_so (si_iconst F dX4_extraFor_122 rfl)
  (zc_so (si_ishr F dX4_extraFor_123)
  (zc_so (si_iload F dX4_extraFor_124)
  (zc_so (si_iconst F dX4_extraFor_126 rfl)
  (zc_so (si_iand F dX4_extraFor_127)
  (zc_nil))))))))))))))))))))
theorem sd404_2 (F : zFx p l R s m args meth c D cid kv N0 xs Ls RX4 cX4_extraFor 8 n0 z0 nF zE d) (IH : zAllM l D cid kv N0 xs Ls d) (hQ : ∀ v h, Qq v h → v = r0 ∧ h = hF) (hn : nF = zN hF) (hz : zE = zZ hF) (hlocks : meth.locks = false) (hr : meth.sig.returnType = (some .int)) : zSoL p l e R s m args below meth c D cid kv N0 xs Ls 8 (MQ below (zQc D cid kv N0 xs Ls ρ0 r0 hF) args s (nF - n0) (zE - z0) (zA N0)) ρ0 n0 z0 nF zE Qq (zCall d) zt404_2 := zc_so (si_ior F dX4_extraFor_128)
  (zc_so (si_istore F dX4_extraFor_129)
  (zc_so (si_goto F dX4_extraFor_131 rfl)
  (zc_so (si_iload_n F dX4_extraFor_134 rfl)
  (zc_so (si_iload F dX4_extraFor_135)
  (zc_so (si_iconst F dX4_extraFor_137 rfl)
  (zc_so (si_iand F dX4_extraFor_138)
  (zc_so (si_iload F dX4_extraFor_139)
  (zc_so (si_imul F dX4_extraFor_141)
  (zc_so (si_iadd F dX4_extraFor_142)
  (zc_so (si_istore_n F dX4_extraFor_143 rfl)
  (zc_so (si_iload F dX4_extraFor_144)
  (zc_so (si_iconst F dX4_extraFor_146 rfl)
  (zc_so (si_ishr F dX4_extraFor_147)
  (zc_so (si_istore F dX4_extraFor_148)
  (zc_so (si_goto F dX4_extraFor_150 rfl)
  (zc_so (si_iload_n F dX4_extraFor_153 rfl)
  (zc_so (si_iload F dX4_extraFor_154)
  (zc_so (si_iconst F dX4_extraFor_156 rfl)
  (zc_so (si_iand F dX4_extraFor_157)
  (zc_so (si_iload F dX4_extraFor_158)
  (zc_so (si_imul F dX4_extraFor_160)
  (zc_so (si_isub F dX4_extraFor_161)
  (zc_so (si_istore_n F dX4_extraFor_162 rfl)
  (zc_so (si_iload F dX4_extraFor_163)
  (zc_so (si_iconst F dX4_extraFor_165 rfl)
  (zc_so (si_ishr F dX4_extraFor_166)
  (zc_so (si_istore F dX4_extraFor_167)
  (zc_so (si_goto F dX4_extraFor_169 rfl)
  (zc_so (si_iload F dX4_extraFor_172)
  (zc_so (si_iconst F dX4_extraFor_174 rfl)
  (zc_so (si_ishl F dX4_extraFor_175)
  (zc_so (si_aload_n F dX4_extraFor_176 rfl)
  (zc_so (si_iload F dX4_extraFor_177)
  (zc_so (si_iload_n F dX4_extraFor_179 rfl)
  (zc_so (si_cV F (IH 215 mm215) mp215 (by decide) rfl rfl (by decide) tb_282 mi215 ms215 mn215 mc215 dX4_extraFor_180)
  (zc_so (si_aload_n F dX4_extraFor_183 rfl)
  (zc_so (si_getR (k := 0) F rfl inT4 (by decide) (by decide) rfl rfl tb_144 dX4_extraFor_184)
  (zc_so (si_iload F dX4_extraFor_187)
  (zc_so (si_iaload F dX4_extraFor_189)
  (zc_so (si_bipush F dX4_extraFor_190 rfl)
  (zc_nil)))))))))))))))))))))))))))))))))))))))))
theorem sd404_3 (F : zFx p l R s m args meth c D cid kv N0 xs Ls RX4 cX4_extraFor 8 n0 z0 nF zE d) (IH : zAllM l D cid kv N0 xs Ls d) (hQ : ∀ v h, Qq v h → v = r0 ∧ h = hF) (hn : nF = zN hF) (hz : zE = zZ hF) (hlocks : meth.locks = false) (hr : meth.sig.returnType = (some .int)) : zSoL p l e R s m args below meth c D cid kv N0 xs Ls 8 (MQ below (zQc D cid kv N0 xs Ls ρ0 r0 hF) args s (nF - n0) (zE - z0) (zA N0)) ρ0 n0 z0 nF zE Qq (zCall d) zt404_3 := zc_so (si_ishr F dX4_extraFor_192)
  (zc_so (si_sipush F dX4_extraFor_193 rfl)
  (zc_so (si_iand F dX4_extraFor_196)
  (zc_so (si_iload F dX4_extraFor_197)
  (zc_so (si_cS  F (IH 405 mm405) mp405 (by decide) tb_286 mi405 mn405 mc405 dX4_extraFor_199)
  (zc_so (si_ior F dX4_extraFor_202)
  (zc_so (si_istore F dX4_extraFor_203)
  (zc_so (si_iinc F dX4_extraFor_205 rfl)
  (zc_so (si_goto F dX4_extraFor_208 rfl)
  (zc_so (si_iload_n F dX4_extraFor_211 rfl)
  (zc_so (si_rI F hQ hn hz hlocks hr (fun _ _ => rfl) dX4_extraFor_212)
  (zc_nil)))))))))))
theorem sd404 (F : zFx p l R s m args meth c D cid kv N0 xs Ls RX4 cX4_extraFor 8 n0 z0 nF zE d) (IH : zAllM l D cid kv N0 xs Ls d) (hQ : ∀ v h, Qq v h → v = r0 ∧ h = hF) (hn : nF = zN hF) (hz : zE = zZ hF) (hlocks : meth.locks = false) (hr : meth.sig.returnType = (some .int)) (pc : Nat) : zSo p l e R s m args below meth c D cid kv N0 xs Ls 8 (MQ below (zQc D cid kv N0 xs Ls ρ0 r0 hF) args s (nF - n0) (zE - z0) (zA N0)) ρ0 n0 z0 nF zE Qq (zCall d) pc (zTab 404 pc) := zc_tab [zt404_0, zt404_1, zt404_2, zt404_3] (zc_cons (sd404_0 F IH hQ hn hz hlocks hr) (zc_cons (sd404_1 F IH hQ hn hz hlocks hr) (zc_cons (sd404_2 F IH hQ hn hz hlocks hr) (zc_cons (sd404_3 F IH hQ hn hz hlocks hr) zc_end))))
theorem dX4_compared_0 : decode cX4_compared 0 = .ok (.iload_n 1, 1) := by decide +kernel
theorem dX4_compared_1 : decode cX4_compared 1 = .ok (.lookupswitch 49 #[(60, 27), (61, 38)], 27) := by decide +kernel
theorem dX4_compared_28 : decode cX4_compared 28 = .ok (.iload_n 0, 1) := by decide +kernel
theorem dX4_compared_29 : decode cX4_compared 29 = .ok (.iload_n 2, 1) := by decide +kernel
theorem dX4_compared_30 : decode cX4_compared 30 = .ok (.if_icmp .ge 7, 3) := by decide +kernel
theorem dX4_compared_33 : decode cX4_compared 33 = .ok (.iconst 1, 1) := by decide +kernel
theorem dX4_compared_34 : decode cX4_compared 34 = .ok (.goto 4, 3) := by decide +kernel
theorem dX4_compared_37 : decode cX4_compared 37 = .ok (.iconst 0, 1) := by decide +kernel
theorem dX4_compared_38 : decode cX4_compared 38 = .ok (.ireturn, 1) := by decide +kernel
theorem dX4_compared_39 : decode cX4_compared 39 = .ok (.iload_n 0, 1) := by decide +kernel
theorem dX4_compared_40 : decode cX4_compared 40 = .ok (.iload_n 2, 1) := by decide +kernel
theorem dX4_compared_41 : decode cX4_compared 41 = .ok (.if_icmp .ne 7, 3) := by decide +kernel
theorem dX4_compared_44 : decode cX4_compared 44 = .ok (.iconst 1, 1) := by decide +kernel
theorem dX4_compared_45 : decode cX4_compared 45 = .ok (.goto 4, 3) := by decide +kernel
theorem dX4_compared_48 : decode cX4_compared 48 = .ok (.iconst 0, 1) := by decide +kernel
theorem dX4_compared_49 : decode cX4_compared 49 = .ok (.ireturn, 1) := by decide +kernel
theorem dX4_compared_50 : decode cX4_compared 50 = .ok (.iload_n 0, 1) := by decide +kernel
theorem dX4_compared_51 : decode cX4_compared 51 = .ok (.iload_n 2, 1) := by decide +kernel
theorem dX4_compared_52 : decode cX4_compared 52 = .ok (.if_icmp .le 7, 3) := by decide +kernel
theorem dX4_compared_55 : decode cX4_compared 55 = .ok (.iconst 1, 1) := by decide +kernel
theorem dX4_compared_56 : decode cX4_compared 56 = .ok (.goto 4, 3) := by decide +kernel
theorem dX4_compared_59 : decode cX4_compared 59 = .ok (.iconst 0, 1) := by decide +kernel
theorem dX4_compared_60 : decode cX4_compared 60 = .ok (.ireturn, 1) := by decide +kernel
theorem sd405_0 (F : zFx p l R s m args meth c D cid kv N0 xs Ls RX4 cX4_compared 3 n0 z0 nF zE d) (IH : zAllM l D cid kv N0 xs Ls d) (hQ : ∀ v h, Qq v h → v = r0 ∧ h = hF) (hn : nF = zN hF) (hz : zE = zZ hF) (hlocks : meth.locks = false) (hr : meth.sig.returnType = (some .int)) : zSoL p l e R s m args below meth c D cid kv N0 xs Ls 3 (MQ below (zQc D cid kv N0 xs Ls ρ0 r0 hF) args s (nF - n0) (zE - z0) (zA N0)) ρ0 n0 z0 nF zE Qq (zCall d) zt405_0 := zc_so (si_iload_n F dX4_compared_0 rfl)
  (zc_so (so_swL F.1.1 F.1.2.1 dX4_compared_1 (by decide +kernel) rfl ⟨rfl, rfl, ⟨rfl, rfl, trivial⟩⟩)
  (zc_so (si_iload_n F dX4_compared_28 rfl)
  (zc_so (si_iload_n F dX4_compared_29 rfl)
  (zc_so (si_icge F dX4_compared_30 rfl)
  (zc_so (si_iconst F dX4_compared_33 rfl)
  (zc_so (si_goto F dX4_compared_34 rfl)
  (zc_so (si_iconst F dX4_compared_37 rfl)
  (zc_so (si_rI F hQ hn hz hlocks hr (fun _ _ => rfl) dX4_compared_38)
  (zc_so (si_iload_n F dX4_compared_39 rfl)
  (zc_so (si_iload_n F dX4_compared_40 rfl)
  (zc_so (si_icne F dX4_compared_41 rfl)
  (zc_so (si_iconst F dX4_compared_44 rfl)
  (zc_so (si_goto F dX4_compared_45 rfl)
  (zc_so (si_iconst F dX4_compared_48 rfl)
  (zc_so (si_rI F hQ hn hz hlocks hr (fun _ _ => rfl) dX4_compared_49)
  (zc_so (si_iload_n F dX4_compared_50 rfl)
  (zc_so (si_iload_n F dX4_compared_51 rfl)
  (zc_so (si_icle F dX4_compared_52 rfl)
  (zc_so (si_iconst F dX4_compared_55 rfl)
  (zc_so (si_goto F dX4_compared_56 rfl)
  (zc_so (si_iconst F dX4_compared_59 rfl)
  (zc_so (si_rI F hQ hn hz hlocks hr (fun _ _ => rfl) dX4_compared_60)
  (zc_nil)))))))))))))))))))))))
theorem sd405 (F : zFx p l R s m args meth c D cid kv N0 xs Ls RX4 cX4_compared 3 n0 z0 nF zE d) (IH : zAllM l D cid kv N0 xs Ls d) (hQ : ∀ v h, Qq v h → v = r0 ∧ h = hF) (hn : nF = zN hF) (hz : zE = zZ hF) (hlocks : meth.locks = false) (hr : meth.sig.returnType = (some .int)) (pc : Nat) : zSo p l e R s m args below meth c D cid kv N0 xs Ls 3 (MQ below (zQc D cid kv N0 xs Ls ρ0 r0 hF) args s (nF - n0) (zE - z0) (zA N0)) ρ0 n0 z0 nF zE Qq (zCall d) pc (zTab 405 pc) := zc_tab [zt405_0] (zc_cons (sd405_0 F IH hQ hn hz hlocks hr) zc_end)
theorem dX6_init_0 : decode cX6_init 0 = .ok (.aload_n 0, 1) := by decide +kernel
theorem dX6_init_1 : decode cX6_init 1 = .ok (.invokespecial 3, 3) := by decide +kernel
theorem dX6_init_4 : decode cX6_init 4 = .ok (.aload_n 0, 1) := by decide +kernel
theorem dX6_init_5 : decode cX6_init 5 = .ok (.iconst (-1), 1) := by decide +kernel
theorem dX6_init_6 : decode cX6_init 6 = .ok (.putfield 11, 3) := by decide +kernel
theorem dX6_init_9 : decode cX6_init 9 = .ok (.aload_n 0, 1) := by decide +kernel
theorem dX6_init_10 : decode cX6_init 10 = .ok (.bipush 60, 2) := by decide +kernel
theorem dX6_init_12 : decode cX6_init 12 = .ok (.newarray .long, 2) := by decide +kernel
theorem dX6_init_14 : decode cX6_init 14 = .ok (.putfield 15, 3) := by decide +kernel
theorem dX6_init_17 : decode cX6_init 17 = .ok (.return_, 1) := by decide +kernel
theorem sd601_0 (F : zFx p l R s m args meth c D cid kv N0 xs Ls RX6 cX6_init 1 n0 z0 nF zE d) (IH : zAllM l D cid kv N0 xs Ls d) (hQ : ∀ v h, Qq v h → v = r0 ∧ h = hF) (hn : nF = zN hF) (hz : zE = zZ hF) (hlocks : meth.locks = false) (hr : meth.sig.returnType = none) (hin : meth.name = "<init>") : zSoL p l e R s m args below meth c D cid kv N0 xs Ls 1 (MQ below (zQc D cid kv N0 xs Ls ρ0 r0 hF) args s (nF - n0) (zE - z0) (zA N0)) ρ0 n0 z0 nF zE Qq (zCall d) zt601_0 := zc_so (si_aload_n F dX6_init_0 rfl)
  (zc_so (si_oinit F tb_201 tb_23 tb_24 dX6_init_1)
  (zc_so (si_aload_n F dX6_init_4 rfl)
  (zc_so (si_iconst F dX6_init_5 rfl)
  (zc_so (si_putI (k := 0) F rfl inT6 (by decide) (by decide) rfl rfl rfl rfl tyX6_ok nmX6 tb_202 dX6_init_6)
  (zc_so (si_aload_n F dX6_init_9 rfl)
  (zc_so (si_bipush F dX6_init_10 rfl)
  (zc_so (so_naJ F.1 F.2.1 (F.1.2.2.2.2 _ tb_215) F.2.2.2.2.1 F.2.2.1 F.2.2.2.1 dX6_init_12)
  (zc_so (si_putRF (k := 2) F rfl inT6 (by decide) (by decide) rfl rfl rfl (fun o => by cases o <;> exact ⟨rfl, rfl⟩) rfl hin rfl tyX6_ok nmX6 tb_206 dX6_init_14)
  (zc_so (si_rV F hQ hn hz hlocks hr dX6_init_17)
  (zc_nil))))))))))
theorem sd601 (F : zFx p l R s m args meth c D cid kv N0 xs Ls RX6 cX6_init 1 n0 z0 nF zE d) (IH : zAllM l D cid kv N0 xs Ls d) (hQ : ∀ v h, Qq v h → v = r0 ∧ h = hF) (hn : nF = zN hF) (hz : zE = zZ hF) (hlocks : meth.locks = false) (hr : meth.sig.returnType = none) (hin : meth.name = "<init>") (pc : Nat) : zSo p l e R s m args below meth c D cid kv N0 xs Ls 1 (MQ below (zQc D cid kv N0 xs Ls ρ0 r0 hF) args s (nF - n0) (zE - z0) (zA N0)) ρ0 n0 z0 nF zE Qq (zCall d) pc (zTab 601 pc) := zc_tab [zt601_0] (zc_cons (sd601_0 F IH hQ hn hz hlocks hr hin) zc_end)
theorem dX6_isBlank_0 : decode cX6_isBlank 0 = .ok (.aload_n 0, 1) := by decide +kernel
theorem dX6_isBlank_1 : decode cX6_isBlank 1 = .ok (.getfield 11, 3) := by decide +kernel
theorem dX6_isBlank_4 : decode cX6_isBlank 4 = .ok (.iconst (-1), 1) := by decide +kernel
theorem dX6_isBlank_5 : decode cX6_isBlank 5 = .ok (.if_icmp .ne 7, 3) := by decide +kernel
theorem dX6_isBlank_8 : decode cX6_isBlank 8 = .ok (.iconst 1, 1) := by decide +kernel
theorem dX6_isBlank_9 : decode cX6_isBlank 9 = .ok (.goto 4, 3) := by decide +kernel
theorem dX6_isBlank_12 : decode cX6_isBlank 12 = .ok (.iconst 0, 1) := by decide +kernel
theorem dX6_isBlank_13 : decode cX6_isBlank 13 = .ok (.ireturn, 1) := by decide +kernel
theorem sd602_0 (F : zFx p l R s m args meth c D cid kv N0 xs Ls RX6 cX6_isBlank 1 n0 z0 nF zE d) (IH : zAllM l D cid kv N0 xs Ls d) (hQ : ∀ v h, Qq v h → v = r0 ∧ h = hF) (hn : nF = zN hF) (hz : zE = zZ hF) (hlocks : meth.locks = false) (hr : meth.sig.returnType = (some .boolean)) : zSoL p l e R s m args below meth c D cid kv N0 xs Ls 1 (MQ below (zQc D cid kv N0 xs Ls ρ0 r0 hF) args s (nF - n0) (zE - z0) (zA N0)) ρ0 n0 z0 nF zE Qq (zCall d) zt602_0 := zc_so (si_aload_n F dX6_isBlank_0 rfl)
  (zc_so (si_getI (k := 0) F rfl inT6 (by decide) (by decide) rfl rfl tb_202 dX6_isBlank_1)
  (zc_so (si_iconst F dX6_isBlank_4 rfl)
  (zc_so (si_icne F dX6_isBlank_5 rfl)
  (zc_so (si_iconst F dX6_isBlank_8 rfl)
  (zc_so (si_goto F dX6_isBlank_9 rfl)
  (zc_so (si_iconst F dX6_isBlank_12 rfl)
  (zc_so (si_rI F hQ hn hz hlocks hr (fun x h => by rcases h with rfl | rfl <;> rfl) dX6_isBlank_13)
  (zc_nil))))))))
theorem sd602 (F : zFx p l R s m args meth c D cid kv N0 xs Ls RX6 cX6_isBlank 1 n0 z0 nF zE d) (IH : zAllM l D cid kv N0 xs Ls d) (hQ : ∀ v h, Qq v h → v = r0 ∧ h = hF) (hn : nF = zN hF) (hz : zE = zZ hF) (hlocks : meth.locks = false) (hr : meth.sig.returnType = (some .boolean)) (pc : Nat) : zSo p l e R s m args below meth c D cid kv N0 xs Ls 1 (MQ below (zQc D cid kv N0 xs Ls ρ0 r0 hF) args s (nF - n0) (zE - z0) (zA N0)) ρ0 n0 z0 nF zE Qq (zCall d) pc (zTab 602 pc) := zc_tab [zt602_0] (zc_cons (sd602_0 F IH hQ hn hz hlocks hr) zc_end)
theorem dX6_become_0 : decode cX6_become 0 = .ok (.aload_n 0, 1) := by decide +kernel
theorem dX6_become_1 : decode cX6_become 1 = .ok (.iload_n 1, 1) := by decide +kernel
theorem dX6_become_2 : decode cX6_become 2 = .ok (.putfield 11, 3) := by decide +kernel
theorem dX6_become_5 : decode cX6_become 5 = .ok (.aload_n 0, 1) := by decide +kernel
theorem dX6_become_6 : decode cX6_become 6 = .ok (.iload_n 2, 1) := by decide +kernel
theorem dX6_become_7 : decode cX6_become 7 = .ok (.iconst 0, 1) := by decide +kernel
theorem dX6_become_8 : decode cX6_become 8 = .ok (.invokestatic 19, 3) := by decide +kernel
theorem dX6_become_11 : decode cX6_become 11 = .ok (.bipush 60, 2) := by decide +kernel
theorem dX6_become_13 : decode cX6_become 13 = .ok (.invokestatic 25, 3) := by decide +kernel
theorem dX6_become_16 : decode cX6_become 16 = .ok (.putfield 28, 3) := by decide +kernel
theorem dX6_become_19 : decode cX6_become 19 = .ok (.iconst 0, 1) := by decide +kernel
theorem dX6_become_20 : decode cX6_become 20 = .ok (.istore_n 3, 1) := by decide +kernel
theorem dX6_become_21 : decode cX6_become 21 = .ok (.iload_n 3, 1) := by decide +kernel
theorem dX6_become_22 : decode cX6_become 22 = .ok (.aload_n 0, 1) := by decide +kernel
theorem dX6_become_23 : decode cX6_become 23 = .ok (.getfield 28, 3) := by decide +kernel
theorem dX6_become_26 : decode cX6_become 26 = .ok (.if_icmp .ge 16, 3) := by decide +kernel
theorem dX6_become_29 : decode cX6_become 29 = .ok (.aload_n 0, 1) := by decide +kernel
theorem dX6_become_30 : decode cX6_become 30 = .ok (.getfield 15, 3) := by decide +kernel
theorem dX6_become_33 : decode cX6_become 33 = .ok (.iload_n 3, 1) := by decide +kernel
theorem dX6_become_34 : decode cX6_become 34 = .ok (.lconst 0, 1) := by decide +kernel
theorem dX6_become_35 : decode cX6_become 35 = .ok (.lastore, 1) := by decide +kernel
theorem dX6_become_36 : decode cX6_become 36 = .ok (.iinc 3 1, 3) := by decide +kernel
theorem dX6_become_39 : decode cX6_become 39 = .ok (.goto (-18), 3) := by decide +kernel
theorem dX6_become_42 : decode cX6_become 42 = .ok (.return_, 1) := by decide +kernel
theorem sd603_0 (F : zFx p l R s m args meth c D cid kv N0 xs Ls RX6 cX6_become 4 n0 z0 nF zE d) (IH : zAllM l D cid kv N0 xs Ls d) (hQ : ∀ v h, Qq v h → v = r0 ∧ h = hF) (hn : nF = zN hF) (hz : zE = zZ hF) (hlocks : meth.locks = false) (hr : meth.sig.returnType = none) : zSoL p l e R s m args below meth c D cid kv N0 xs Ls 4 (MQ below (zQc D cid kv N0 xs Ls ρ0 r0 hF) args s (nF - n0) (zE - z0) (zA N0)) ρ0 n0 z0 nF zE Qq (zCall d) zt603_0 := zc_so (si_aload_n F dX6_become_0 rfl)
  (zc_so (si_iload_n F dX6_become_1 rfl)
  (zc_so (si_putI (k := 0) F rfl inT6 (by decide) (by decide) rfl rfl rfl rfl tyX6_ok nmX6 tb_202 dX6_become_2)
  (zc_so (si_aload_n F dX6_become_5 rfl)
  (zc_so (si_iload_n F dX6_become_6 rfl)
  (zc_so (si_iconst F dX6_become_7 rfl)
  (zc_so (si_max F tb_670 tb_97 tb_5 tb_98 dX6_become_8)
  (zc_so (si_bipush F dX6_become_11 rfl)
  (zc_so (si_min F tb_671 tb_298 tb_5 tb_299 dX6_become_13)
  (zc_so (si_putI (k := 1) F rfl inT6 (by decide) (by decide) rfl rfl rfl rfl tyX6_ok nmX6 tb_204 dX6_become_16)
  (zc_so (si_iconst F dX6_become_19 rfl)
  (zc_so (si_istore_n F dX6_become_20 rfl)
  (zc_so (si_iload_n F dX6_become_21 rfl)
  (zc_so (si_aload_n F dX6_become_22 rfl)
  (zc_so (si_getI (k := 1) F rfl inT6 (by decide) (by decide) rfl rfl tb_204 dX6_become_23)
  (zc_so (si_icge F dX6_become_26 rfl)
  (zc_so (si_aload_n F dX6_become_29 rfl)
  (zc_so (si_getR (k := 2) F rfl inT6 (by decide) (by decide) rfl rfl tb_206 dX6_become_30)
  (zc_so (si_iload_n F dX6_become_33 rfl)
  (zc_so (si_lconst F dX6_become_34 rfl)
  (zc_so (si_lastore F dX6_become_35)
  (zc_so (si_iinc F dX6_become_36 rfl)
  (zc_so (si_goto F dX6_become_39 rfl)
  (zc_so (si_rV F hQ hn hz hlocks hr dX6_become_42)
  (zc_nil))))))))))))))))))))))))
theorem sd603 (F : zFx p l R s m args meth c D cid kv N0 xs Ls RX6 cX6_become 4 n0 z0 nF zE d) (IH : zAllM l D cid kv N0 xs Ls d) (hQ : ∀ v h, Qq v h → v = r0 ∧ h = hF) (hn : nF = zN hF) (hz : zE = zZ hF) (hlocks : meth.locks = false) (hr : meth.sig.returnType = none) (pc : Nat) : zSo p l e R s m args below meth c D cid kv N0 xs Ls 4 (MQ below (zQc D cid kv N0 xs Ls ρ0 r0 hF) args s (nF - n0) (zE - z0) (zA N0)) ρ0 n0 z0 nF zE Qq (zCall d) pc (zTab 603 pc) := zc_tab [zt603_0] (zc_cons (sd603_0 F IH hQ hn hz hlocks hr) zc_end)
theorem dX6_cut_0 : decode cX6_cut 0 = .ok (.aload_n 0, 1) := by decide +kernel
theorem dX6_cut_1 : decode cX6_cut 1 = .ok (.getfield 11, 3) := by decide +kernel
theorem dX6_cut_4 : decode cX6_cut 4 = .ok (.tableswitch 48 0 3 #[32, 37, 42, 46], 32) := by decide +kernel
theorem dX6_cut_36 : decode cX6_cut 36 = .ok (.lload_n 1, 1) := by decide +kernel
theorem dX6_cut_37 : decode cX6_cut 37 = .ok (.l2i, 1) := by decide +kernel
theorem dX6_cut_38 : decode cX6_cut 38 = .ok (.i2b, 1) := by decide +kernel
theorem dX6_cut_39 : decode cX6_cut 39 = .ok (.i2l, 1) := by decide +kernel
theorem dX6_cut_40 : decode cX6_cut 40 = .ok (.lreturn, 1) := by decide +kernel
theorem dX6_cut_41 : decode cX6_cut 41 = .ok (.lload_n 1, 1) := by decide +kernel
theorem dX6_cut_42 : decode cX6_cut 42 = .ok (.l2i, 1) := by decide +kernel
theorem dX6_cut_43 : decode cX6_cut 43 = .ok (.i2s, 1) := by decide +kernel
theorem dX6_cut_44 : decode cX6_cut 44 = .ok (.i2l, 1) := by decide +kernel
theorem dX6_cut_45 : decode cX6_cut 45 = .ok (.lreturn, 1) := by decide +kernel
theorem dX6_cut_46 : decode cX6_cut 46 = .ok (.lload_n 1, 1) := by decide +kernel
theorem dX6_cut_47 : decode cX6_cut 47 = .ok (.l2i, 1) := by decide +kernel
theorem dX6_cut_48 : decode cX6_cut 48 = .ok (.i2l, 1) := by decide +kernel
theorem dX6_cut_49 : decode cX6_cut 49 = .ok (.lreturn, 1) := by decide +kernel
theorem dX6_cut_50 : decode cX6_cut 50 = .ok (.lload_n 1, 1) := by decide +kernel
theorem dX6_cut_51 : decode cX6_cut 51 = .ok (.lreturn, 1) := by decide +kernel
theorem dX6_cut_52 : decode cX6_cut 52 = .ok (.lload_n 1, 1) := by decide +kernel
theorem dX6_cut_53 : decode cX6_cut 53 = .ok (.lconst 0, 1) := by decide +kernel
theorem dX6_cut_54 : decode cX6_cut 54 = .ok (.lcmp, 1) := by decide +kernel
theorem dX6_cut_55 : decode cX6_cut 55 = .ok (.ifCond .eq 7, 3) := by decide +kernel
theorem dX6_cut_58 : decode cX6_cut 58 = .ok (.lconst 1, 1) := by decide +kernel
theorem dX6_cut_59 : decode cX6_cut 59 = .ok (.goto 4, 3) := by decide +kernel
theorem dX6_cut_62 : decode cX6_cut 62 = .ok (.lconst 0, 1) := by decide +kernel
theorem dX6_cut_63 : decode cX6_cut 63 = .ok (.lreturn, 1) := by decide +kernel
theorem sd604_0 (F : zFx p l R s m args meth c D cid kv N0 xs Ls RX6 cX6_cut 3 n0 z0 nF zE d) (IH : zAllM l D cid kv N0 xs Ls d) (hQ : ∀ v h, Qq v h → v = r0 ∧ h = hF) (hn : nF = zN hF) (hz : zE = zZ hF) (hlocks : meth.locks = false) (hr : meth.sig.returnType = (some .long)) : zSoL p l e R s m args below meth c D cid kv N0 xs Ls 3 (MQ below (zQc D cid kv N0 xs Ls ρ0 r0 hF) args s (nF - n0) (zE - z0) (zA N0)) ρ0 n0 z0 nF zE Qq (zCall d) zt604_0 := zc_so (si_aload_n F dX6_cut_0 rfl)
  (zc_so (si_getI (k := 0) F rfl inT6 (by decide) (by decide) rfl rfl tb_202 dX6_cut_1)
  (zc_so (so_swT F.1.1 F.1.2.1 dX6_cut_4 rfl rfl ⟨rfl, rfl, ⟨rfl, rfl, ⟨rfl, rfl, ⟨rfl, rfl, trivial⟩⟩⟩⟩)
  (zc_so (si_lload_n F dX6_cut_36 rfl)
  (zc_so (si_l2i F dX6_cut_37)
  (zc_so (si_i2b F dX6_cut_38)
  (zc_so (si_i2l F dX6_cut_39)
  (zc_so (si_rJ F hQ hn hz hlocks hr dX6_cut_40)
  (zc_so (si_lload_n F dX6_cut_41 rfl)
  (zc_so (si_l2i F dX6_cut_42)
  (zc_so (si_i2s F dX6_cut_43)
  (zc_so (si_i2l F dX6_cut_44)
  (zc_so (si_rJ F hQ hn hz hlocks hr dX6_cut_45)
  (zc_so (si_lload_n F dX6_cut_46 rfl)
  (zc_so (si_l2i F dX6_cut_47)
  (zc_so (si_i2l F dX6_cut_48)
  (zc_so (si_rJ F hQ hn hz hlocks hr dX6_cut_49)
  (zc_so (si_lload_n F dX6_cut_50 rfl)
  (zc_so (si_rJ F hQ hn hz hlocks hr dX6_cut_51)
  (zc_so (si_lload_n F dX6_cut_52 rfl)
  (zc_so (si_lconst F dX6_cut_53 rfl)
  (zc_so (si_lcmp F dX6_cut_54)
  (zc_so (si_ifeq F dX6_cut_55 rfl)
  (zc_so (si_lconst F dX6_cut_58 rfl)
  (zc_so (si_goto F dX6_cut_59 rfl)
  (zc_so (si_lconst F dX6_cut_62 rfl)
  (zc_so (si_rJ F hQ hn hz hlocks hr dX6_cut_63)
  (zc_nil)))))))))))))))))))))))))))
theorem sd604 (F : zFx p l R s m args meth c D cid kv N0 xs Ls RX6 cX6_cut 3 n0 z0 nF zE d) (IH : zAllM l D cid kv N0 xs Ls d) (hQ : ∀ v h, Qq v h → v = r0 ∧ h = hF) (hn : nF = zN hF) (hz : zE = zZ hF) (hlocks : meth.locks = false) (hr : meth.sig.returnType = (some .long)) (pc : Nat) : zSo p l e R s m args below meth c D cid kv N0 xs Ls 3 (MQ below (zQc D cid kv N0 xs Ls ρ0 r0 hF) args s (nF - n0) (zE - z0) (zA N0)) ρ0 n0 z0 nF zE Qq (zCall d) pc (zTab 604 pc) := zc_tab [zt604_0] (zc_cons (sd604_0 F IH hQ hn hz hlocks hr) zc_end)
theorem dX6_reaches_0 : decode cX6_reaches 0 = .ok (.iload_n 1, 1) := by decide +kernel
theorem dX6_reaches_1 : decode cX6_reaches 1 = .ok (.ifCond .lt 21, 3) := by decide +kernel
theorem dX6_reaches_4 : decode cX6_reaches 4 = .ok (.iload_n 2, 1) := by decide +kernel
theorem dX6_reaches_5 : decode cX6_reaches 5 = .ok (.ifCond .lt 17, 3) := by decide +kernel
theorem dX6_reaches_8 : decode cX6_reaches 8 = .ok (.iload_n 2, 1) := by decide +kernel
theorem dX6_reaches_9 : decode cX6_reaches 9 = .ok (.aload_n 0, 1) := by decide +kernel
theorem dX6_reaches_10 : decode cX6_reaches 10 = .ok (.getfield 28, 3) := by decide +kernel
theorem dX6_reaches_13 : decode cX6_reaches 13 = .ok (.iload_n 1, 1) := by decide +kernel
theorem dX6_reaches_14 : decode cX6_reaches 14 = .ok (.isub, 1) := by decide +kernel
theorem dX6_reaches_15 : decode cX6_reaches 15 = .ok (.if_icmp .gt 7, 3) := by decide +kernel
theorem dX6_reaches_18 : decode cX6_reaches 18 = .ok (.iconst 1, 1) := by decide +kernel
theorem dX6_reaches_19 : decode cX6_reaches 19 = .ok (.goto 4, 3) := by decide +kernel
theorem dX6_reaches_22 : decode cX6_reaches 22 = .ok (.iconst 0, 1) := by decide +kernel
theorem dX6_reaches_23 : decode cX6_reaches 23 = .ok (.ireturn, 1) := by decide +kernel
theorem sd605_0 (F : zFx p l R s m args meth c D cid kv N0 xs Ls RX6 cX6_reaches 3 n0 z0 nF zE d) (IH : zAllM l D cid kv N0 xs Ls d) (hQ : ∀ v h, Qq v h → v = r0 ∧ h = hF) (hn : nF = zN hF) (hz : zE = zZ hF) (hlocks : meth.locks = false) (hr : meth.sig.returnType = (some .boolean)) : zSoL p l e R s m args below meth c D cid kv N0 xs Ls 3 (MQ below (zQc D cid kv N0 xs Ls ρ0 r0 hF) args s (nF - n0) (zE - z0) (zA N0)) ρ0 n0 z0 nF zE Qq (zCall d) zt605_0 := zc_so (si_iload_n F dX6_reaches_0 rfl)
  (zc_so (si_iflt F dX6_reaches_1 rfl)
  (zc_so (si_iload_n F dX6_reaches_4 rfl)
  (zc_so (si_iflt F dX6_reaches_5 rfl)
  (zc_so (si_iload_n F dX6_reaches_8 rfl)
  (zc_so (si_aload_n F dX6_reaches_9 rfl)
  (zc_so (si_getI (k := 1) F rfl inT6 (by decide) (by decide) rfl rfl tb_204 dX6_reaches_10)
  (zc_so (si_iload_n F dX6_reaches_13 rfl)
  (zc_so (si_isub F dX6_reaches_14)
  (zc_so (si_icgt F dX6_reaches_15 rfl)
  (zc_so (si_iconst F dX6_reaches_18 rfl)
  (zc_so (si_goto F dX6_reaches_19 rfl)
  (zc_so (si_iconst F dX6_reaches_22 rfl)
  (zc_so (si_rI F hQ hn hz hlocks hr (fun x h => by rcases h with rfl | rfl <;> rfl) dX6_reaches_23)
  (zc_nil))))))))))))))
theorem sd605 (F : zFx p l R s m args meth c D cid kv N0 xs Ls RX6 cX6_reaches 3 n0 z0 nF zE d) (IH : zAllM l D cid kv N0 xs Ls d) (hQ : ∀ v h, Qq v h → v = r0 ∧ h = hF) (hn : nF = zN hF) (hz : zE = zZ hF) (hlocks : meth.locks = false) (hr : meth.sig.returnType = (some .boolean)) (pc : Nat) : zSo p l e R s m args below meth c D cid kv N0 xs Ls 3 (MQ below (zQc D cid kv N0 xs Ls ρ0 r0 hF) args s (nF - n0) (zE - z0) (zA N0)) ρ0 n0 z0 nF zE Qq (zCall d) pc (zTab 605 pc) := zc_tab [zt605_0] (zc_cons (sd605_0 F IH hQ hn hz hlocks hr) zc_end)
theorem dJ6_bitCount_0f7a4_0 : decode cJ6_bitCount_0f7a4 0 = .ok (.iload_n 0, 1) := by decide +kernel
theorem dJ6_bitCount_0f7a4_1 : decode cJ6_bitCount_0f7a4 1 = .ok (.iload_n 0, 1) := by decide +kernel
theorem dJ6_bitCount_0f7a4_2 : decode cJ6_bitCount_0f7a4 2 = .ok (.iconst 1, 1) := by decide +kernel
theorem dJ6_bitCount_0f7a4_3 : decode cJ6_bitCount_0f7a4 3 = .ok (.iushr, 1) := by decide +kernel
theorem dJ6_bitCount_0f7a4_4 : decode cJ6_bitCount_0f7a4 4 = .ok (.ldc_w 265, 3) := by decide +kernel
theorem dJ6_bitCount_0f7a4_7 : decode cJ6_bitCount_0f7a4 7 = .ok (.iand, 1) := by decide +kernel
theorem dJ6_bitCount_0f7a4_8 : decode cJ6_bitCount_0f7a4 8 = .ok (.isub, 1) := by decide +kernel
theorem dJ6_bitCount_0f7a4_9 : decode cJ6_bitCount_0f7a4 9 = .ok (.istore_n 0, 1) := by decide +kernel
theorem dJ6_bitCount_0f7a4_10 : decode cJ6_bitCount_0f7a4 10 = .ok (.iload_n 0, 1) := by decide +kernel
theorem dJ6_bitCount_0f7a4_11 : decode cJ6_bitCount_0f7a4 11 = .ok (.ldc_w 266, 3) := by decide +kernel
theorem dJ6_bitCount_0f7a4_14 : decode cJ6_bitCount_0f7a4 14 = .ok (.iand, 1) := by decide +kernel
theorem dJ6_bitCount_0f7a4_15 : decode cJ6_bitCount_0f7a4 15 = .ok (.iload_n 0, 1) := by decide +kernel
theorem dJ6_bitCount_0f7a4_16 : decode cJ6_bitCount_0f7a4 16 = .ok (.iconst 2, 1) := by decide +kernel
theorem dJ6_bitCount_0f7a4_17 : decode cJ6_bitCount_0f7a4 17 = .ok (.iushr, 1) := by decide +kernel
theorem dJ6_bitCount_0f7a4_18 : decode cJ6_bitCount_0f7a4 18 = .ok (.ldc_w 266, 3) := by decide +kernel
theorem dJ6_bitCount_0f7a4_21 : decode cJ6_bitCount_0f7a4 21 = .ok (.iand, 1) := by decide +kernel
theorem dJ6_bitCount_0f7a4_22 : decode cJ6_bitCount_0f7a4 22 = .ok (.iadd, 1) := by decide +kernel
theorem dJ6_bitCount_0f7a4_23 : decode cJ6_bitCount_0f7a4 23 = .ok (.istore_n 0, 1) := by decide +kernel
theorem dJ6_bitCount_0f7a4_24 : decode cJ6_bitCount_0f7a4 24 = .ok (.iload_n 0, 1) := by decide +kernel
theorem dJ6_bitCount_0f7a4_25 : decode cJ6_bitCount_0f7a4 25 = .ok (.iload_n 0, 1) := by decide +kernel
theorem dJ6_bitCount_0f7a4_26 : decode cJ6_bitCount_0f7a4 26 = .ok (.iconst 4, 1) := by decide +kernel
theorem dJ6_bitCount_0f7a4_27 : decode cJ6_bitCount_0f7a4 27 = .ok (.iushr, 1) := by decide +kernel
theorem dJ6_bitCount_0f7a4_28 : decode cJ6_bitCount_0f7a4 28 = .ok (.iadd, 1) := by decide +kernel
theorem dJ6_bitCount_0f7a4_29 : decode cJ6_bitCount_0f7a4 29 = .ok (.ldc_w 267, 3) := by decide +kernel
theorem dJ6_bitCount_0f7a4_32 : decode cJ6_bitCount_0f7a4 32 = .ok (.iand, 1) := by decide +kernel
theorem dJ6_bitCount_0f7a4_33 : decode cJ6_bitCount_0f7a4 33 = .ok (.istore_n 0, 1) := by decide +kernel
theorem dJ6_bitCount_0f7a4_34 : decode cJ6_bitCount_0f7a4 34 = .ok (.iload_n 0, 1) := by decide +kernel
theorem dJ6_bitCount_0f7a4_35 : decode cJ6_bitCount_0f7a4 35 = .ok (.iload_n 0, 1) := by decide +kernel
theorem dJ6_bitCount_0f7a4_36 : decode cJ6_bitCount_0f7a4 36 = .ok (.bipush 8, 2) := by decide +kernel
theorem dJ6_bitCount_0f7a4_38 : decode cJ6_bitCount_0f7a4 38 = .ok (.iushr, 1) := by decide +kernel
theorem dJ6_bitCount_0f7a4_39 : decode cJ6_bitCount_0f7a4 39 = .ok (.iadd, 1) := by decide +kernel
theorem dJ6_bitCount_0f7a4_40 : decode cJ6_bitCount_0f7a4 40 = .ok (.istore_n 0, 1) := by decide +kernel
theorem dJ6_bitCount_0f7a4_41 : decode cJ6_bitCount_0f7a4 41 = .ok (.iload_n 0, 1) := by decide +kernel
theorem dJ6_bitCount_0f7a4_42 : decode cJ6_bitCount_0f7a4 42 = .ok (.iload_n 0, 1) := by decide +kernel
theorem dJ6_bitCount_0f7a4_43 : decode cJ6_bitCount_0f7a4 43 = .ok (.bipush 16, 2) := by decide +kernel
theorem dJ6_bitCount_0f7a4_45 : decode cJ6_bitCount_0f7a4 45 = .ok (.iushr, 1) := by decide +kernel
theorem dJ6_bitCount_0f7a4_46 : decode cJ6_bitCount_0f7a4 46 = .ok (.iadd, 1) := by decide +kernel
theorem dJ6_bitCount_0f7a4_47 : decode cJ6_bitCount_0f7a4 47 = .ok (.istore_n 0, 1) := by decide +kernel
theorem dJ6_bitCount_0f7a4_48 : decode cJ6_bitCount_0f7a4 48 = .ok (.iload_n 0, 1) := by decide +kernel
theorem dJ6_bitCount_0f7a4_49 : decode cJ6_bitCount_0f7a4 49 = .ok (.bipush 63, 2) := by decide +kernel
theorem dJ6_bitCount_0f7a4_51 : decode cJ6_bitCount_0f7a4 51 = .ok (.iand, 1) := by decide +kernel
theorem dJ6_bitCount_0f7a4_52 : decode cJ6_bitCount_0f7a4 52 = .ok (.ireturn, 1) := by decide +kernel
theorem sd901_0 (F : zFx p l R s m args meth c D cid kv N0 xs Ls RJ6 cJ6_bitCount_0f7a4 1 n0 z0 nF zE d) (IH : zAllM l D cid kv N0 xs Ls d) (hQ : ∀ v h, Qq v h → v = r0 ∧ h = hF) (hn : nF = zN hF) (hz : zE = zZ hF) (hlocks : meth.locks = false) (hr : meth.sig.returnType = (some .int)) : zSoL p l e R s m args below meth c D cid kv N0 xs Ls 1 (MQ below (zQc D cid kv N0 xs Ls ρ0 r0 hF) args s (nF - n0) (zE - z0) (zA N0)) ρ0 n0 z0 nF zE Qq (zCall d) zt901_0 := zc_so (si_iload_n F dJ6_bitCount_0f7a4_0 rfl)
  (zc_so (si_iload_n F dJ6_bitCount_0f7a4_1 rfl)
  (zc_so (si_iconst F dJ6_bitCount_0f7a4_2 rfl)
  (zc_so (si_iushr F dJ6_bitCount_0f7a4_3)
  (zc_so (si_ldc_w F dJ6_bitCount_0f7a4_4 tb_497)
  (zc_so (si_iand F dJ6_bitCount_0f7a4_7)
  (zc_so (si_isub F dJ6_bitCount_0f7a4_8)
  (zc_so (si_istore_n F dJ6_bitCount_0f7a4_9 rfl)
  (zc_so (si_iload_n F dJ6_bitCount_0f7a4_10 rfl)
  (zc_so (si_ldc_w F dJ6_bitCount_0f7a4_11 tb_498)
  (zc_so (si_iand F dJ6_bitCount_0f7a4_14)
  (zc_so (si_iload_n F dJ6_bitCount_0f7a4_15 rfl)
  (zc_so (si_iconst F dJ6_bitCount_0f7a4_16 rfl)
  (zc_so (si_iushr F dJ6_bitCount_0f7a4_17)
  (zc_so (si_ldc_w F dJ6_bitCount_0f7a4_18 tb_498)
  (zc_so (si_iand F dJ6_bitCount_0f7a4_21)
  (zc_so (si_iadd F dJ6_bitCount_0f7a4_22)
  (zc_so (si_istore_n F dJ6_bitCount_0f7a4_23 rfl)
  (zc_so (si_iload_n F dJ6_bitCount_0f7a4_24 rfl)
  (zc_so (si_iload_n F dJ6_bitCount_0f7a4_25 rfl)
  (zc_so (si_iconst F dJ6_bitCount_0f7a4_26 rfl)
  (zc_so (si_iushr F dJ6_bitCount_0f7a4_27)
  (zc_so (si_iadd F dJ6_bitCount_0f7a4_28)
  (zc_so (si_ldc_w F dJ6_bitCount_0f7a4_29 tb_499)
  (zc_so (si_iand F dJ6_bitCount_0f7a4_32)
  (zc_so (si_istore_n F dJ6_bitCount_0f7a4_33 rfl)
  (zc_so (si_iload_n F dJ6_bitCount_0f7a4_34 rfl)
  (zc_so (si_iload_n F dJ6_bitCount_0f7a4_35 rfl)
  (zc_so (si_bipush F dJ6_bitCount_0f7a4_36 rfl)
  (zc_so (si_iushr F dJ6_bitCount_0f7a4_38)
  (zc_so (si_iadd F dJ6_bitCount_0f7a4_39)
  (zc_so (si_istore_n F dJ6_bitCount_0f7a4_40 rfl)
  (zc_so (si_iload_n F dJ6_bitCount_0f7a4_41 rfl)
  (zc_so (si_iload_n F dJ6_bitCount_0f7a4_42 rfl)
  (zc_so (si_bipush F dJ6_bitCount_0f7a4_43 rfl)
  (zc_so (si_iushr F dJ6_bitCount_0f7a4_45)
  (zc_so (si_iadd F dJ6_bitCount_0f7a4_46)
  (zc_so (si_istore_n F dJ6_bitCount_0f7a4_47 rfl)
  (zc_so (si_iload_n F dJ6_bitCount_0f7a4_48 rfl)
  (zc_so (si_bipush F dJ6_bitCount_0f7a4_49 rfl)
  (zc_so (si_iand F dJ6_bitCount_0f7a4_51)
  (zc_so (si_rI F hQ hn hz hlocks hr (fun _ _ => rfl) dJ6_bitCount_0f7a4_52)
  (zc_nil))))))))))))))))))))))))))))))))))))))))))
theorem sd901 (F : zFx p l R s m args meth c D cid kv N0 xs Ls RJ6 cJ6_bitCount_0f7a4 1 n0 z0 nF zE d) (IH : zAllM l D cid kv N0 xs Ls d) (hQ : ∀ v h, Qq v h → v = r0 ∧ h = hF) (hn : nF = zN hF) (hz : zE = zZ hF) (hlocks : meth.locks = false) (hr : meth.sig.returnType = (some .int)) (pc : Nat) : zSo p l e R s m args below meth c D cid kv N0 xs Ls 1 (MQ below (zQc D cid kv N0 xs Ls ρ0 r0 hF) args s (nF - n0) (zE - z0) (zA N0)) ρ0 n0 z0 nF zE Qq (zCall d) pc (zTab 901 pc) := zc_tab [zt901_0] (zc_cons (sd901_0 F IH hQ hn hz hlocks hr) zc_end)
theorem dJ0_length_8abf5_0 : decode cJ0_length_8abf5 0 = .ok (.aload_n 0, 1) := by decide +kernel
theorem dJ0_length_8abf5_1 : decode cJ0_length_8abf5 1 = .ok (.getfield 9, 3) := by decide +kernel
theorem dJ0_length_8abf5_4 : decode cJ0_length_8abf5 4 = .ok (.arraylength, 1) := by decide +kernel
theorem dJ0_length_8abf5_5 : decode cJ0_length_8abf5 5 = .ok (.aload_n 0, 1) := by decide +kernel
theorem dJ0_length_8abf5_6 : decode cJ0_length_8abf5 6 = .ok (.invokevirtual 335, 3) := by decide +kernel
theorem dJ0_length_8abf5_9 : decode cJ0_length_8abf5 9 = .ok (.ishr, 1) := by decide +kernel
theorem dJ0_length_8abf5_10 : decode cJ0_length_8abf5 10 = .ok (.ireturn, 1) := by decide +kernel
theorem sd1001_0 (F : zFx p l R s m args meth c D cid kv N0 xs Ls RJ0 cJ0_length_8abf5 1 n0 z0 nF zE d) (IH : zAllM l D cid kv N0 xs Ls d) (hQ : ∀ v h, Qq v h → v = r0 ∧ h = hF) (hn : nF = zN hF) (hz : zE = zZ hF) (hlocks : meth.locks = false) (hr : meth.sig.returnType = (some .int)) : zSoL p l e R s m args below meth c D cid kv N0 xs Ls 1 (MQ below (zQc D cid kv N0 xs Ls ρ0 r0 hF) args s (nF - n0) (zE - z0) (zA N0)) ρ0 n0 z0 nF zE Qq (zCall d) zt1001_0 := zc_so (si_aload_n F dJ0_length_8abf5_0 rfl)
  (zc_so (so_sv F.1 F.2.1 (F.1.2.2.2.2 _ tb_1074) dJ0_length_8abf5_1)
  (zc_so (so_lenB F.1.1 F.1.2.1 F.2.1 dJ0_length_8abf5_4)
  (zc_so (si_aload_n F dJ0_length_8abf5_5 rfl)
  (zc_so (si_cT F (IH 1003 mm1003) mp1003 (by decide) rfl tb_384 mi1003 ms1003 mn1003 mc1003 dJ0_length_8abf5_6)
  (zc_so (si_ishr F dJ0_length_8abf5_9)
  (zc_so (si_rI F hQ hn hz hlocks hr (fun _ _ => rfl) dJ0_length_8abf5_10)
  (zc_nil)))))))
theorem sd1001 (F : zFx p l R s m args meth c D cid kv N0 xs Ls RJ0 cJ0_length_8abf5 1 n0 z0 nF zE d) (IH : zAllM l D cid kv N0 xs Ls d) (hQ : ∀ v h, Qq v h → v = r0 ∧ h = hF) (hn : nF = zN hF) (hz : zE = zZ hF) (hlocks : meth.locks = false) (hr : meth.sig.returnType = (some .int)) (pc : Nat) : zSo p l e R s m args below meth c D cid kv N0 xs Ls 1 (MQ below (zQc D cid kv N0 xs Ls ρ0 r0 hF) args s (nF - n0) (zE - z0) (zA N0)) ρ0 n0 z0 nF zE Qq (zCall d) pc (zTab 1001 pc) := zc_tab [zt1001_0] (zc_cons (sd1001_0 F IH hQ hn hz hlocks hr) zc_end)
theorem dJ0_charAt_5068e_0 : decode cJ0_charAt_5068e 0 = .ok (.aload_n 0, 1) := by decide +kernel
theorem dJ0_charAt_5068e_1 : decode cJ0_charAt_5068e 1 = .ok (.invokevirtual 492, 3) := by decide +kernel
theorem dJ0_charAt_5068e_4 : decode cJ0_charAt_5068e 4 = .ok (.ifCond .eq 12, 3) := by decide +kernel
theorem dJ0_charAt_5068e_7 : decode cJ0_charAt_5068e 7 = .ok (.aload_n 0, 1) := by decide +kernel
theorem dJ0_charAt_5068e_8 : decode cJ0_charAt_5068e 8 = .ok (.getfield 9, 3) := by decide +kernel
theorem dJ0_charAt_5068e_11 : decode cJ0_charAt_5068e 11 = .ok (.iload_n 1, 1) := by decide +kernel
theorem dJ0_charAt_5068e_12 : decode cJ0_charAt_5068e 12 = .ok (.invokestatic 495, 3) := by decide +kernel
theorem dJ0_charAt_5068e_15 : decode cJ0_charAt_5068e 15 = .ok (.ireturn, 1) := by decide +kernel
theorem dJ0_charAt_5068e_16 : decode cJ0_charAt_5068e 16 = .ok (.aload_n 0, 1) := by decide +kernel
theorem dJ0_charAt_5068e_17 : decode cJ0_charAt_5068e 17 = .ok (.getfield 9, 3) := by decide +kernel
theorem dJ0_charAt_5068e_20 : decode cJ0_charAt_5068e 20 = .ok (.iload_n 1, 1) := by decide +kernel
theorem sd1002_0 (F : zFx p l R s m args meth c D cid kv N0 xs Ls RJ0 cJ0_charAt_5068e 2 n0 z0 nF zE d) (IH : zAllM l D cid kv N0 xs Ls d) (hQ : ∀ v h, Qq v h → v = r0 ∧ h = hF) (hn : nF = zN hF) (hz : zE = zZ hF) (hlocks : meth.locks = false) (hr : meth.sig.returnType = (some .char)) : zSoL p l e R s m args below meth c D cid kv N0 xs Ls 2 (MQ below (zQc D cid kv N0 xs Ls ρ0 r0 hF) args s (nF - n0) (zE - z0) (zA N0)) ρ0 n0 z0 nF zE Qq (zCall d) zt1002_0 := zc_so (si_aload_n F dJ0_charAt_5068e_0 rfl)
  (zc_so (si_cT F (IH 1004 mm1004) mp1004 (by decide) rfl tb_394 mi1004 ms1004 mn1004 mc1004 dJ0_charAt_5068e_1)
  (zc_so (si_ifeq F dJ0_charAt_5068e_4 rfl)
  (zc_so (si_aload_n F dJ0_charAt_5068e_7 rfl)
  (zc_so (so_sv F.1 F.2.1 (F.1.2.2.2.2 _ tb_1074) dJ0_charAt_5068e_8)
  (zc_so (si_iload_n F dJ0_charAt_5068e_11 rfl)
  (zc_so (si_cS  F (IH 1101 mm1101) mp1101 (by decide) tb_398 mi1101 mn1101 mc1101 dJ0_charAt_5068e_12)
  (zc_so (si_rI F hQ hn hz hlocks hr (fun x h => congrArg Value.int h) dJ0_charAt_5068e_15)
  (zc_so (si_aload_n F dJ0_charAt_5068e_16 rfl)
  (zc_so (so_sv F.1 F.2.1 (F.1.2.2.2.2 _ tb_1074) dJ0_charAt_5068e_17)
  (zc_so (si_iload_n F dJ0_charAt_5068e_20 rfl)
  (zc_so (so_F)
  (zc_nil))))))))))))
theorem sd1002 (F : zFx p l R s m args meth c D cid kv N0 xs Ls RJ0 cJ0_charAt_5068e 2 n0 z0 nF zE d) (IH : zAllM l D cid kv N0 xs Ls d) (hQ : ∀ v h, Qq v h → v = r0 ∧ h = hF) (hn : nF = zN hF) (hz : zE = zZ hF) (hlocks : meth.locks = false) (hr : meth.sig.returnType = (some .char)) (pc : Nat) : zSo p l e R s m args below meth c D cid kv N0 xs Ls 2 (MQ below (zQc D cid kv N0 xs Ls ρ0 r0 hF) args s (nF - n0) (zE - z0) (zA N0)) ρ0 n0 z0 nF zE Qq (zCall d) pc (zTab 1002 pc) := zc_tab [zt1002_0] (zc_cons (sd1002_0 F IH hQ hn hz hlocks hr) zc_end)
theorem dJ0_coder_7d493_0 : decode cJ0_coder_7d493 0 = .ok (.getstatic 38, 3) := by decide +kernel
theorem dJ0_coder_7d493_3 : decode cJ0_coder_7d493 3 = .ok (.ifCond .eq 10, 3) := by decide +kernel
theorem dJ0_coder_7d493_6 : decode cJ0_coder_7d493 6 = .ok (.aload_n 0, 1) := by decide +kernel
theorem dJ0_coder_7d493_7 : decode cJ0_coder_7d493 7 = .ok (.getfield 15, 3) := by decide +kernel
theorem dJ0_coder_7d493_10 : decode cJ0_coder_7d493 10 = .ok (.goto 4, 3) := by decide +kernel
theorem dJ0_coder_7d493_13 : decode cJ0_coder_7d493 13 = .ok (.iconst 1, 1) := by decide +kernel
theorem dJ0_coder_7d493_14 : decode cJ0_coder_7d493 14 = .ok (.ireturn, 1) := by decide +kernel
theorem sd1003_0 (F : zFx p l R s m args meth c D cid kv N0 xs Ls RJ0 cJ0_coder_7d493 1 n0 z0 nF zE d) (IH : zAllM l D cid kv N0 xs Ls d) (hQ : ∀ v h, Qq v h → v = r0 ∧ h = hF) (hn : nF = zN hF) (hz : zE = zZ hF) (hlocks : meth.locks = false) (hr : meth.sig.returnType = (some .byte)) : zSoL p l e R s m args below meth c D cid kv N0 xs Ls 1 (MQ below (zQc D cid kv N0 xs Ls ρ0 r0 hF) args s (nF - n0) (zE - z0) (zA N0)) ρ0 n0 z0 nF zE Qq (zCall d) zt1003_0 := zc_so (si_gs3 F dJ0_coder_7d493_0 tb_388)
  (zc_so (si_ifeq F dJ0_coder_7d493_3 rfl)
  (zc_so (si_aload_n F dJ0_coder_7d493_6 rfl)
  (zc_so (so_sc F.1 F.2.1 (F.1.2.2.2.2 _ tb_1075) dJ0_coder_7d493_7)
  (zc_so (si_goto F dJ0_coder_7d493_10 rfl)
  (zc_so (si_iconst F dJ0_coder_7d493_13 rfl)
  (zc_so (si_rI F hQ hn hz hlocks hr (fun x h => congrArg Value.int h) dJ0_coder_7d493_14)
  (zc_nil)))))))
theorem sd1003 (F : zFx p l R s m args meth c D cid kv N0 xs Ls RJ0 cJ0_coder_7d493 1 n0 z0 nF zE d) (IH : zAllM l D cid kv N0 xs Ls d) (hQ : ∀ v h, Qq v h → v = r0 ∧ h = hF) (hn : nF = zN hF) (hz : zE = zZ hF) (hlocks : meth.locks = false) (hr : meth.sig.returnType = (some .byte)) (pc : Nat) : zSo p l e R s m args below meth c D cid kv N0 xs Ls 1 (MQ below (zQc D cid kv N0 xs Ls ρ0 r0 hF) args s (nF - n0) (zE - z0) (zA N0)) ρ0 n0 z0 nF zE Qq (zCall d) pc (zTab 1003 pc) := zc_tab [zt1003_0] (zc_cons (sd1003_0 F IH hQ hn hz hlocks hr) zc_end)
theorem dJ0_isLatin1_aae02_0 : decode cJ0_isLatin1_aae02 0 = .ok (.getstatic 38, 3) := by decide +kernel
theorem dJ0_isLatin1_aae02_3 : decode cJ0_isLatin1_aae02 3 = .ok (.ifCond .eq 14, 3) := by decide +kernel
theorem dJ0_isLatin1_aae02_6 : decode cJ0_isLatin1_aae02 6 = .ok (.aload_n 0, 1) := by decide +kernel
theorem dJ0_isLatin1_aae02_7 : decode cJ0_isLatin1_aae02 7 = .ok (.getfield 15, 3) := by decide +kernel
theorem dJ0_isLatin1_aae02_10 : decode cJ0_isLatin1_aae02 10 = .ok (.ifCond .ne 7, 3) := by decide +kernel
theorem dJ0_isLatin1_aae02_13 : decode cJ0_isLatin1_aae02 13 = .ok (.iconst 1, 1) := by decide +kernel
theorem dJ0_isLatin1_aae02_14 : decode cJ0_isLatin1_aae02 14 = .ok (.goto 4, 3) := by decide +kernel
theorem dJ0_isLatin1_aae02_17 : decode cJ0_isLatin1_aae02 17 = .ok (.iconst 0, 1) := by decide +kernel
theorem dJ0_isLatin1_aae02_18 : decode cJ0_isLatin1_aae02 18 = .ok (.ireturn, 1) := by decide +kernel
theorem sd1004_0 (F : zFx p l R s m args meth c D cid kv N0 xs Ls RJ0 cJ0_isLatin1_aae02 1 n0 z0 nF zE d) (IH : zAllM l D cid kv N0 xs Ls d) (hQ : ∀ v h, Qq v h → v = r0 ∧ h = hF) (hn : nF = zN hF) (hz : zE = zZ hF) (hlocks : meth.locks = false) (hr : meth.sig.returnType = (some .boolean)) : zSoL p l e R s m args below meth c D cid kv N0 xs Ls 1 (MQ below (zQc D cid kv N0 xs Ls ρ0 r0 hF) args s (nF - n0) (zE - z0) (zA N0)) ρ0 n0 z0 nF zE Qq (zCall d) zt1004_0 := zc_so (si_gs3 F dJ0_isLatin1_aae02_0 tb_388)
  (zc_so (si_ifeq F dJ0_isLatin1_aae02_3 rfl)
  (zc_so (si_aload_n F dJ0_isLatin1_aae02_6 rfl)
  (zc_so (so_sc F.1 F.2.1 (F.1.2.2.2.2 _ tb_1075) dJ0_isLatin1_aae02_7)
  (zc_so (si_ifne F dJ0_isLatin1_aae02_10 rfl)
  (zc_so (si_iconst F dJ0_isLatin1_aae02_13 rfl)
  (zc_so (si_goto F dJ0_isLatin1_aae02_14 rfl)
  (zc_so (si_iconst F dJ0_isLatin1_aae02_17 rfl)
  (zc_so (si_rI F hQ hn hz hlocks hr (fun x h => by rcases h with rfl | rfl <;> rfl) dJ0_isLatin1_aae02_18)
  (zc_nil)))))))))
theorem sd1004 (F : zFx p l R s m args meth c D cid kv N0 xs Ls RJ0 cJ0_isLatin1_aae02 1 n0 z0 nF zE d) (IH : zAllM l D cid kv N0 xs Ls d) (hQ : ∀ v h, Qq v h → v = r0 ∧ h = hF) (hn : nF = zN hF) (hz : zE = zZ hF) (hlocks : meth.locks = false) (hr : meth.sig.returnType = (some .boolean)) (pc : Nat) : zSo p l e R s m args below meth c D cid kv N0 xs Ls 1 (MQ below (zQc D cid kv N0 xs Ls ρ0 r0 hF) args s (nF - n0) (zE - z0) (zA N0)) ρ0 n0 z0 nF zE Qq (zCall d) pc (zTab 1004 pc) := zc_tab [zt1004_0] (zc_cons (sd1004_0 F IH hQ hn hz hlocks hr) zc_end)
theorem dJ0_checkIndex_df160_0 : decode cJ0_checkIndex_df160 0 = .ok (.iload_n 0, 1) := by decide +kernel
theorem dJ0_checkIndex_df160_1 : decode cJ0_checkIndex_df160 1 = .ok (.iload_n 1, 1) := by decide +kernel
theorem dJ0_checkIndex_df160_2 : decode cJ0_checkIndex_df160 2 = .ok (.getstatic 1053, 3) := by decide +kernel
theorem dJ0_checkIndex_df160_5 : decode cJ0_checkIndex_df160 5 = .ok (.invokestatic 1059, 3) := by decide +kernel
theorem dJ0_checkIndex_df160_8 : decode cJ0_checkIndex_df160 8 = .ok (.pop, 1) := by decide +kernel
theorem dJ0_checkIndex_df160_9 : decode cJ0_checkIndex_df160 9 = .ok (.return_, 1) := by decide +kernel
theorem sd1005_0 (F : zFx p l R s m args meth c D cid kv N0 xs Ls RJ0 cJ0_checkIndex_df160 2 n0 z0 nF zE d) (IH : zAllM l D cid kv N0 xs Ls d) (hQ : ∀ v h, Qq v h → v = r0 ∧ h = hF) (hn : nF = zN hF) (hz : zE = zZ hF) (hlocks : meth.locks = false) (hr : meth.sig.returnType = none) : zSoL p l e R s m args below meth c D cid kv N0 xs Ls 2 (MQ below (zQc D cid kv N0 xs Ls ρ0 r0 hF) args s (nF - n0) (zE - z0) (zA N0)) ρ0 n0 z0 nF zE Qq (zCall d) zt1005_0 := zc_so (si_iload_n F dJ0_checkIndex_df160_0 rfl)
  (zc_so (si_iload_n F dJ0_checkIndex_df160_1 rfl)
  (zc_so (si_gs4 F dJ0_checkIndex_df160_2 tb_404)
  (zc_so (si_cS  F (IH 1201 mm1201) mp1201 (by decide) tb_406 mi1201 mn1201 mc1201 dJ0_checkIndex_df160_5)
  (zc_so (si_pop F dJ0_checkIndex_df160_8)
  (zc_so (si_rV F hQ hn hz hlocks hr dJ0_checkIndex_df160_9)
  (zc_nil))))))
theorem sd1005 (F : zFx p l R s m args meth c D cid kv N0 xs Ls RJ0 cJ0_checkIndex_df160 2 n0 z0 nF zE d) (IH : zAllM l D cid kv N0 xs Ls d) (hQ : ∀ v h, Qq v h → v = r0 ∧ h = hF) (hn : nF = zN hF) (hz : zE = zZ hF) (hlocks : meth.locks = false) (hr : meth.sig.returnType = none) (pc : Nat) : zSo p l e R s m args below meth c D cid kv N0 xs Ls 2 (MQ below (zQc D cid kv N0 xs Ls ρ0 r0 hF) args s (nF - n0) (zE - z0) (zA N0)) ρ0 n0 z0 nF zE Qq (zCall d) pc (zTab 1005 pc) := zc_tab [zt1005_0] (zc_cons (sd1005_0 F IH hQ hn hz hlocks hr) zc_end)
theorem dJ1_charAt_3b067_0 : decode cJ1_charAt_3b067 0 = .ok (.iload_n 1, 1) := by decide +kernel
theorem dJ1_charAt_3b067_1 : decode cJ1_charAt_3b067 1 = .ok (.aload_n 0, 1) := by decide +kernel
theorem dJ1_charAt_3b067_2 : decode cJ1_charAt_3b067 2 = .ok (.arraylength, 1) := by decide +kernel
theorem dJ1_charAt_3b067_3 : decode cJ1_charAt_3b067 3 = .ok (.invokestatic 9, 3) := by decide +kernel
theorem dJ1_charAt_3b067_6 : decode cJ1_charAt_3b067 6 = .ok (.aload_n 0, 1) := by decide +kernel
theorem dJ1_charAt_3b067_7 : decode cJ1_charAt_3b067 7 = .ok (.iload_n 1, 1) := by decide +kernel
theorem dJ1_charAt_3b067_8 : decode cJ1_charAt_3b067 8 = .ok (.baload, 1) := by decide +kernel
theorem dJ1_charAt_3b067_9 : decode cJ1_charAt_3b067 9 = .ok (.sipush 255, 3) := by decide +kernel
theorem dJ1_charAt_3b067_12 : decode cJ1_charAt_3b067 12 = .ok (.iand, 1) := by decide +kernel
theorem dJ1_charAt_3b067_13 : decode cJ1_charAt_3b067 13 = .ok (.i2c, 1) := by decide +kernel
theorem dJ1_charAt_3b067_14 : decode cJ1_charAt_3b067 14 = .ok (.ireturn, 1) := by decide +kernel
theorem sd1101_0 (F : zFx p l R s m args meth c D cid kv N0 xs Ls RJ1 cJ1_charAt_3b067 2 n0 z0 nF zE d) (IH : zAllM l D cid kv N0 xs Ls d) (hQ : ∀ v h, Qq v h → v = r0 ∧ h = hF) (hn : nF = zN hF) (hz : zE = zZ hF) (hlocks : meth.locks = false) (hr : meth.sig.returnType = (some .char)) : zSoL p l e R s m args below meth c D cid kv N0 xs Ls 2 (MQ below (zQc D cid kv N0 xs Ls ρ0 r0 hF) args s (nF - n0) (zE - z0) (zA N0)) ρ0 n0 z0 nF zE Qq (zCall d) zt1101_0 := zc_so (si_iload_n F dJ1_charAt_3b067_0 rfl)
  (zc_so (si_aload_n F dJ1_charAt_3b067_1 rfl)
  (zc_so (so_lenB F.1.1 F.1.2.1 F.2.1 dJ1_charAt_3b067_2)
  (zc_so (si_cS  F (IH 1005 mm1005) mp1005 (by decide) tb_401 mi1005 mn1005 mc1005 dJ1_charAt_3b067_3)
  (zc_so (si_aload_n F dJ1_charAt_3b067_6 rfl)
  (zc_so (si_iload_n F dJ1_charAt_3b067_7 rfl)
  (zc_so (so_iaB F.1.1 F.1.2.1 F.2.1 dJ1_charAt_3b067_8)
  (zc_so (si_sipush F dJ1_charAt_3b067_9 rfl)
  (zc_so (si_iand F dJ1_charAt_3b067_12)
  (zc_so (si_i2c F dJ1_charAt_3b067_13)
  (zc_so (si_rI F hQ hn hz hlocks hr (fun x h => congrArg Value.int h) dJ1_charAt_3b067_14)
  (zc_nil)))))))))))
theorem sd1101 (F : zFx p l R s m args meth c D cid kv N0 xs Ls RJ1 cJ1_charAt_3b067 2 n0 z0 nF zE d) (IH : zAllM l D cid kv N0 xs Ls d) (hQ : ∀ v h, Qq v h → v = r0 ∧ h = hF) (hn : nF = zN hF) (hz : zE = zZ hF) (hlocks : meth.locks = false) (hr : meth.sig.returnType = (some .char)) (pc : Nat) : zSo p l e R s m args below meth c D cid kv N0 xs Ls 2 (MQ below (zQc D cid kv N0 xs Ls ρ0 r0 hF) args s (nF - n0) (zE - z0) (zA N0)) ρ0 n0 z0 nF zE Qq (zCall d) pc (zTab 1101 pc) := zc_tab [zt1101_0] (zc_cons (sd1101_0 F IH hQ hn hz hlocks hr) zc_end)
theorem dJ3_checkIndex_8e157_0 : decode cJ3_checkIndex_8e157 0 = .ok (.iload_n 0, 1) := by decide +kernel
theorem dJ3_checkIndex_8e157_1 : decode cJ3_checkIndex_8e157 1 = .ok (.ifCond .lt 8, 3) := by decide +kernel
theorem dJ3_checkIndex_8e157_4 : decode cJ3_checkIndex_8e157 4 = .ok (.iload_n 0, 1) := by decide +kernel
theorem dJ3_checkIndex_8e157_5 : decode cJ3_checkIndex_8e157 5 = .ok (.iload_n 1, 1) := by decide +kernel
theorem dJ3_checkIndex_8e157_6 : decode cJ3_checkIndex_8e157 6 = .ok (.if_icmp .lt 10, 3) := by decide +kernel
theorem dJ3_checkIndex_8e157_9 : decode cJ3_checkIndex_8e157 9 = .ok (.aload_n 2, 1) := by decide +kernel
theorem dJ3_checkIndex_8e157_10 : decode cJ3_checkIndex_8e157 10 = .ok (.iload_n 0, 1) := by decide +kernel
theorem dJ3_checkIndex_8e157_11 : decode cJ3_checkIndex_8e157 11 = .ok (.iload_n 1, 1) := by decide +kernel
theorem dJ3_checkIndex_8e157_16 : decode cJ3_checkIndex_8e157 16 = .ok (.iload_n 0, 1) := by decide +kernel
theorem dJ3_checkIndex_8e157_17 : decode cJ3_checkIndex_8e157 17 = .ok (.ireturn, 1) := by decide +kernel
theorem sd1201_0 (F : zFx p l R s m args meth c D cid kv N0 xs Ls RJ3 cJ3_checkIndex_8e157 3 n0 z0 nF zE d) (IH : zAllM l D cid kv N0 xs Ls d) (hQ : ∀ v h, Qq v h → v = r0 ∧ h = hF) (hn : nF = zN hF) (hz : zE = zZ hF) (hlocks : meth.locks = false) (hr : meth.sig.returnType = (some .int)) : zSoL p l e R s m args below meth c D cid kv N0 xs Ls 3 (MQ below (zQc D cid kv N0 xs Ls ρ0 r0 hF) args s (nF - n0) (zE - z0) (zA N0)) ρ0 n0 z0 nF zE Qq (zCall d) zt1201_0 := zc_so (si_iload_n F dJ3_checkIndex_8e157_0 rfl)
  (zc_so (si_iflt F dJ3_checkIndex_8e157_1 rfl)
  (zc_so (si_iload_n F dJ3_checkIndex_8e157_4 rfl)
  (zc_so (si_iload_n F dJ3_checkIndex_8e157_5 rfl)
  (zc_so (si_iclt F dJ3_checkIndex_8e157_6 rfl)
  (zc_so (si_aload_n F dJ3_checkIndex_8e157_9 rfl)
  (zc_so (si_iload_n F dJ3_checkIndex_8e157_10 rfl)
  (zc_so (si_iload_n F dJ3_checkIndex_8e157_11 rfl)
  (zc_so (so_F)
  (zc_so (si_iload_n F dJ3_checkIndex_8e157_16 rfl)
  (zc_so (si_rI F hQ hn hz hlocks hr (fun _ _ => rfl) dJ3_checkIndex_8e157_17)
  (zc_nil)))))))))))
theorem sd1201 (F : zFx p l R s m args meth c D cid kv N0 xs Ls RJ3 cJ3_checkIndex_8e157 3 n0 z0 nF zE d) (IH : zAllM l D cid kv N0 xs Ls d) (hQ : ∀ v h, Qq v h → v = r0 ∧ h = hF) (hn : nF = zN hF) (hz : zE = zZ hF) (hlocks : meth.locks = false) (hr : meth.sig.returnType = (some .int)) (pc : Nat) : zSo p l e R s m args below meth c D cid kv N0 xs Ls 3 (MQ below (zQc D cid kv N0 xs Ls ρ0 r0 hF) args s (nF - n0) (zE - z0) (zA N0)) ρ0 n0 z0 nF zE Qq (zCall d) pc (zTab 1201 pc) := zc_tab [zt1201_0] (zc_cons (sd1201_0 F IH hQ hn hz hlocks hr) zc_end)
