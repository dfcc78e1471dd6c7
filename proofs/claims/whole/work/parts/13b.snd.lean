/-! decode rows, and every method is right -/
variable {p : Program} {l : Launch} {e : Env} {R : Room} {s : State} {m : MethodId} {args : Array Value} {below : List Frame} {meth : Method} {c : Code} {D : va_G} {cid : Nat → ClassId} {kv : Nat → Option Nat} {N0 : Nat} {xs : Nat → Int32} {Ls n0 z0 nF zE d : Nat} {ρ0 : List Nat} {Qq : zQq} {r0 : Option Value} {hF : zH}
theorem dX5_init_0 : decode cX5_init 0 = .ok (.aload_n 0, 1) := by decide +kernel
theorem dX5_init_1 : decode cX5_init 1 = .ok (.invokespecial 3, 3) := by decide +kernel
theorem dX5_init_4 : decode cX5_init 4 = .ok (.aload_n 0, 1) := by decide +kernel
theorem dX5_init_5 : decode cX5_init 5 = .ok (.bipush 100, 2) := by decide +kernel
theorem dX5_init_7 : decode cX5_init 7 = .ok (.newarray .byte, 2) := by decide +kernel
theorem dX5_init_9 : decode cX5_init 9 = .ok (.putfield 9, 3) := by decide +kernel
theorem dX5_init_12 : decode cX5_init 12 = .ok (.aload_n 0, 1) := by decide +kernel
theorem dX5_init_13 : decode cX5_init 13 = .ok (.new 15, 3) := by decide +kernel
theorem dX5_init_16 : decode cX5_init 16 = .ok (.dup, 1) := by decide +kernel
theorem dX5_init_17 : decode cX5_init 17 = .ok (.invokespecial 17, 3) := by decide +kernel
theorem dX5_init_20 : decode cX5_init 20 = .ok (.putfield 18, 3) := by decide +kernel
theorem dX5_init_23 : decode cX5_init 23 = .ok (.return_, 1) := by decide +kernel
theorem sd501_0 (F : zFx p l R s m args meth c D cid kv N0 xs Ls RX5 cX5_init 1 n0 z0 nF zE d) (IH : zAllM l D cid kv N0 xs Ls d) (hQ : ∀ v h, Qq v h → v = r0 ∧ h = hF) (hn : nF = zN hF) (hz : zE = zZ hF) (hlocks : meth.locks = false) (hr : meth.sig.returnType = none) (hin : meth.name = "<init>") : zSoL p l e R s m args below meth c D cid kv N0 xs Ls 1 (MQ below (zQc D cid kv N0 xs Ls ρ0 r0 hF) args s (nF - n0) (zE - z0) (zA N0)) ρ0 n0 z0 nF zE Qq (zCall d) zt501_0 := zc_so (si_aload_n F dX5_init_0 rfl)
  (zc_so (si_oinit F tb_137 tb_23 tb_24 dX5_init_1)
  (zc_so (si_aload_n F dX5_init_4 rfl)
  (zc_so (si_bipush F dX5_init_5 rfl)
  (zc_so (so_naI (ty := .byte) (atype := .byte) F.1 F.2.1 (by decide) (by decide) rfl rfl (fun C h => by cases h) (by decide) rfl (F.1.2.2.2.2 _ tb_156) F.2.2.2.2.1 F.2.2.1 F.2.2.2.1 dX5_init_7)
  (zc_so (si_putRF (k := 0) F rfl inT5 (by decide) (by decide) rfl rfl rfl (fun o => by cases o <;> exact ⟨rfl, rfl⟩) rfl hin rfl tyX5_ok nmX5 tb_157 dX5_init_9)
  (zc_so (si_aload_n F dX5_init_12 rfl)
  (zc_so (si_new F rfl inT4 (by decide) tyX4_ok nwX4 tb_138 tb_139 tb_7 dX5_init_13)
  (zc_so (si_dup F dX5_init_16)
  (zc_so (si_cIN (host := "TurnBack") F (IH 401 mm401) mp401 (by decide) rfl (by decide +kernel) mi401 mn401 mc401 dX5_init_17)
  (zc_so (si_putR (k := 1) F rfl inT5 (by decide) (by decide) rfl rfl rfl (fun o => by cases o <;> exact ⟨rfl, rfl⟩) rfl tyX5_ok nmX5 tb_158 dX5_init_20)
  (zc_so (si_rV F hQ hn hz hlocks hr dX5_init_23)
  (zc_nil))))))))))))
theorem sd501 (F : zFx p l R s m args meth c D cid kv N0 xs Ls RX5 cX5_init 1 n0 z0 nF zE d) (IH : zAllM l D cid kv N0 xs Ls d) (hQ : ∀ v h, Qq v h → v = r0 ∧ h = hF) (hn : nF = zN hF) (hz : zE = zZ hF) (hlocks : meth.locks = false) (hr : meth.sig.returnType = none) (hin : meth.name = "<init>") (pc : Nat) : zSo p l e R s m args below meth c D cid kv N0 xs Ls 1 (MQ below (zQc D cid kv N0 xs Ls ρ0 r0 hF) args s (nF - n0) (zE - z0) (zA N0)) ρ0 n0 z0 nF zE Qq (zCall d) pc (zTab 501 pc) := zc_tab [zt501_0] (zc_cons (sd501_0 F IH hQ hn hz hlocks hr hin) zc_end)
theorem dX5_take_0 : decode cX5_take 0 = .ok (.aload_n 0, 1) := by decide +kernel
theorem dX5_take_1 : decode cX5_take 1 = .ok (.getfield 22, 3) := by decide +kernel
theorem dX5_take_4 : decode cX5_take 4 = .ok (.bipush 100, 2) := by decide +kernel
theorem dX5_take_6 : decode cX5_take 6 = .ok (.if_icmp .lt 6, 3) := by decide +kernel
theorem dX5_take_9 : decode cX5_take 9 = .ok (.bipush (-4), 2) := by decide +kernel
theorem dX5_take_11 : decode cX5_take 11 = .ok (.ireturn, 1) := by decide +kernel
theorem dX5_take_12 : decode cX5_take 12 = .ok (.aload_n 0, 1) := by decide +kernel
theorem dX5_take_13 : decode cX5_take 13 = .ok (.getfield 9, 3) := by decide +kernel
theorem dX5_take_16 : decode cX5_take 16 = .ok (.aload_n 0, 1) := by decide +kernel
theorem dX5_take_17 : decode cX5_take 17 = .ok (.getfield 22, 3) := by decide +kernel
theorem dX5_take_20 : decode cX5_take 20 = .ok (.iload_n 1, 1) := by decide +kernel
theorem dX5_take_21 : decode cX5_take 21 = .ok (.i2b, 1) := by decide +kernel
theorem dX5_take_22 : decode cX5_take 22 = .ok (.bastore, 1) := by decide +kernel
theorem dX5_take_23 : decode cX5_take 23 = .ok (.aload_n 0, 1) := by decide +kernel
theorem dX5_take_24 : decode cX5_take 24 = .ok (.dup, 1) := by decide +kernel
theorem dX5_take_25 : decode cX5_take 25 = .ok (.getfield 22, 3) := by decide +kernel
theorem dX5_take_28 : decode cX5_take 28 = .ok (.iconst 1, 1) := by decide +kernel
theorem dX5_take_29 : decode cX5_take 29 = .ok (.iadd, 1) := by decide +kernel
theorem dX5_take_30 : decode cX5_take 30 = .ok (.putfield 22, 3) := by decide +kernel
theorem dX5_take_33 : decode cX5_take 33 = .ok (.aload_n 0, 1) := by decide +kernel
theorem dX5_take_34 : decode cX5_take 34 = .ok (.getfield 22, 3) := by decide +kernel
theorem dX5_take_37 : decode cX5_take 37 = .ok (.ireturn, 1) := by decide +kernel
theorem sd502_0 (F : zFx p l R s m args meth c D cid kv N0 xs Ls RX5 cX5_take 2 n0 z0 nF zE d) (IH : zAllM l D cid kv N0 xs Ls d) (hQ : ∀ v h, Qq v h → v = r0 ∧ h = hF) (hn : nF = zN hF) (hz : zE = zZ hF) (hlocks : meth.locks = false) (hr : meth.sig.returnType = (some .int)) : zSoL p l e R s m args below meth c D cid kv N0 xs Ls 2 (MQ below (zQc D cid kv N0 xs Ls ρ0 r0 hF) args s (nF - n0) (zE - z0) (zA N0)) ρ0 n0 z0 nF zE Qq (zCall d) zt502_0 := zc_so (si_aload_n F dX5_take_0 rfl)
  (zc_so (si_getI (k := 3) F rfl inT5 (by decide) (by decide) rfl rfl tb_160 dX5_take_1)
  (zc_so (si_bipush F dX5_take_4 rfl)
  (zc_so (si_iclt F dX5_take_6 rfl)
  (zc_so (si_bipush F dX5_take_9 rfl)
  (zc_so (si_rI F hQ hn hz hlocks hr (fun _ _ => rfl) dX5_take_11)
  (zc_so (si_aload_n F dX5_take_12 rfl)
  (zc_so (si_getR (k := 0) F rfl inT5 (by decide) (by decide) rfl rfl tb_157 dX5_take_13)
  (zc_so (si_aload_n F dX5_take_16 rfl)
  (zc_so (si_getI (k := 3) F rfl inT5 (by decide) (by decide) rfl rfl tb_160 dX5_take_17)
  (zc_so (si_iload_n F dX5_take_20 rfl)
  (zc_so (si_i2b F dX5_take_21)
  (zc_so (si_bastoreB F dX5_take_22)
  (zc_so (si_aload_n F dX5_take_23 rfl)
  (zc_so (si_dup F dX5_take_24)
  (zc_so (si_getI (k := 3) F rfl inT5 (by decide) (by decide) rfl rfl tb_160 dX5_take_25)
  (zc_so (si_iconst F dX5_take_28 rfl)
  (zc_so (si_iadd F dX5_take_29)
  (zc_so (si_putI (k := 3) F rfl inT5 (by decide) (by decide) rfl rfl rfl rfl tyX5_ok nmX5 tb_160 dX5_take_30)
  (zc_so (si_aload_n F dX5_take_33 rfl)
  (zc_so (si_getI (k := 3) F rfl inT5 (by decide) (by decide) rfl rfl tb_160 dX5_take_34)
  (zc_so (si_rI F hQ hn hz hlocks hr (fun _ _ => rfl) dX5_take_37)
  (zc_nil))))))))))))))))))))))
theorem sd502 (F : zFx p l R s m args meth c D cid kv N0 xs Ls RX5 cX5_take 2 n0 z0 nF zE d) (IH : zAllM l D cid kv N0 xs Ls d) (hQ : ∀ v h, Qq v h → v = r0 ∧ h = hF) (hn : nF = zN hF) (hz : zE = zZ hF) (hlocks : meth.locks = false) (hr : meth.sig.returnType = (some .int)) (pc : Nat) : zSo p l e R s m args below meth c D cid kv N0 xs Ls 2 (MQ below (zQc D cid kv N0 xs Ls ρ0 r0 hF) args s (nF - n0) (zE - z0) (zA N0)) ρ0 n0 z0 nF zE Qq (zCall d) pc (zTab 502 pc) := zc_tab [zt502_0] (zc_cons (sd502_0 F IH hQ hn hz hlocks hr) zc_end)
theorem dX5_draftSeason_0 : decode cX5_draftSeason 0 = .ok (.aload_n 0, 1) := by decide +kernel
theorem dX5_draftSeason_1 : decode cX5_draftSeason 1 = .ok (.getfield 18, 3) := by decide +kernel
theorem dX5_draftSeason_4 : decode cX5_draftSeason 4 = .ok (.invokevirtual 26, 3) := by decide +kernel
theorem dX5_draftSeason_7 : decode cX5_draftSeason 7 = .ok (.aload_n 0, 1) := by decide +kernel
theorem dX5_draftSeason_8 : decode cX5_draftSeason 8 = .ok (.iconst 0, 1) := by decide +kernel
theorem dX5_draftSeason_9 : decode cX5_draftSeason 9 = .ok (.putfield 29, 3) := by decide +kernel
theorem dX5_draftSeason_12 : decode cX5_draftSeason 12 = .ok (.iconst 0, 1) := by decide +kernel
theorem dX5_draftSeason_13 : decode cX5_draftSeason 13 = .ok (.istore_n 1, 1) := by decide +kernel
theorem dX5_draftSeason_14 : decode cX5_draftSeason 14 = .ok (.iconst 1, 1) := by decide +kernel
theorem dX5_draftSeason_15 : decode cX5_draftSeason 15 = .ok (.istore_n 2, 1) := by decide +kernel
theorem dX5_draftSeason_16 : decode cX5_draftSeason 16 = .ok (.iload_n 2, 1) := by decide +kernel
theorem dX5_draftSeason_17 : decode cX5_draftSeason 17 = .ok (.bipush 10, 2) := by decide +kernel
theorem dX5_draftSeason_19 : decode cX5_draftSeason 19 = .ok (.if_icmp .gt 58, 3) := by decide +kernel
theorem dX5_draftSeason_22 : decode cX5_draftSeason 22 = .ok (.aload_n 0, 1) := by decide +kernel
theorem dX5_draftSeason_23 : decode cX5_draftSeason 23 = .ok (.invokevirtual 32, 3) := by decide +kernel
theorem dX5_draftSeason_26 : decode cX5_draftSeason 26 = .ok (.ifCond .ne 6, 3) := by decide +kernel
theorem dX5_draftSeason_29 : decode cX5_draftSeason 29 = .ok (.goto 48, 3) := by decide +kernel
theorem dX5_draftSeason_32 : decode cX5_draftSeason 32 = .ok (.aload_n 0, 1) := by decide +kernel
theorem dX5_draftSeason_33 : decode cX5_draftSeason 33 = .ok (.getfield 29, 3) := by decide +kernel
theorem dX5_draftSeason_36 : decode cX5_draftSeason 36 = .ok (.aload_n 0, 1) := by decide +kernel
theorem dX5_draftSeason_37 : decode cX5_draftSeason 37 = .ok (.getfield 22, 3) := by decide +kernel
theorem dX5_draftSeason_40 : decode cX5_draftSeason 40 = .ok (.if_icmp .ne 7, 3) := by decide +kernel
theorem dX5_draftSeason_43 : decode cX5_draftSeason 43 = .ok (.iconst 1, 1) := by decide +kernel
theorem dX5_draftSeason_44 : decode cX5_draftSeason 44 = .ok (.goto 4, 3) := by decide +kernel
theorem dX5_draftSeason_47 : decode cX5_draftSeason 47 = .ok (.iconst 0, 1) := by decide +kernel
theorem dX5_draftSeason_48 : decode cX5_draftSeason 48 = .ok (.istore_n 1, 1) := by decide +kernel
theorem dX5_draftSeason_49 : decode cX5_draftSeason 49 = .ok (.iload_n 1, 1) := by decide +kernel
theorem dX5_draftSeason_50 : decode cX5_draftSeason 50 = .ok (.ifCond .ne 27, 3) := by decide +kernel
theorem dX5_draftSeason_53 : decode cX5_draftSeason 53 = .ok (.iload_n 2, 1) := by decide +kernel
theorem dX5_draftSeason_54 : decode cX5_draftSeason 54 = .ok (.bipush 10, 2) := by decide +kernel
theorem dX5_draftSeason_56 : decode cX5_draftSeason 56 = .ok (.if_icmp .eq 21, 3) := by decide +kernel
theorem dX5_draftSeason_59 : decode cX5_draftSeason 59 = .ok (.aload_n 0, 1) := by decide +kernel
theorem dX5_draftSeason_60 : decode cX5_draftSeason 60 = .ok (.bipush 59, 2) := by decide +kernel
theorem dX5_draftSeason_62 : decode cX5_draftSeason 62 = .ok (.invokevirtual 36, 3) := by decide +kernel
theorem dX5_draftSeason_65 : decode cX5_draftSeason 65 = .ok (.ifCond .ne 6, 3) := by decide +kernel
theorem dX5_draftSeason_68 : decode cX5_draftSeason 68 = .ok (.goto 9, 3) := by decide +kernel
theorem dX5_draftSeason_71 : decode cX5_draftSeason 71 = .ok (.iinc 2 1, 3) := by decide +kernel
theorem dX5_draftSeason_74 : decode cX5_draftSeason 74 = .ok (.goto (-58), 3) := by decide +kernel
theorem dX5_draftSeason_77 : decode cX5_draftSeason 77 = .ok (.aload_n 0, 1) := by decide +kernel
theorem dX5_draftSeason_78 : decode cX5_draftSeason 78 = .ok (.iconst 0, 1) := by decide +kernel
theorem dX5_draftSeason_79 : decode cX5_draftSeason 79 = .ok (.putfield 22, 3) := by decide +kernel
theorem dX5_draftSeason_82 : decode cX5_draftSeason 82 = .ok (.iload_n 1, 1) := by decide +kernel
theorem dX5_draftSeason_83 : decode cX5_draftSeason 83 = .ok (.ifCond .eq 7, 3) := by decide +kernel
theorem dX5_draftSeason_86 : decode cX5_draftSeason 86 = .ok (.iconst (-1), 1) := by decide +kernel
theorem dX5_draftSeason_87 : decode cX5_draftSeason 87 = .ok (.goto 7, 3) := by decide +kernel
theorem dX5_draftSeason_90 : decode cX5_draftSeason 90 = .ok (.aload_n 0, 1) := by decide +kernel
theorem dX5_draftSeason_91 : decode cX5_draftSeason 91 = .ok (.getfield 29, 3) := by decide +kernel
theorem dX5_draftSeason_94 : decode cX5_draftSeason 94 = .ok (.ireturn, 1) := by decide +kernel
theorem sd503_0 (F : zFx p l R s m args meth c D cid kv N0 xs Ls RX5 cX5_draftSeason 3 n0 z0 nF zE d) (IH : zAllM l D cid kv N0 xs Ls d) (hQ : ∀ v h, Qq v h → v = r0 ∧ h = hF) (hn : nF = zN hF) (hz : zE = zZ hF) (hlocks : meth.locks = false) (hr : meth.sig.returnType = (some .int)) : zSoL p l e R s m args below meth c D cid kv N0 xs Ls 3 (MQ below (zQc D cid kv N0 xs Ls ρ0 r0 hF) args s (nF - n0) (zE - z0) (zA N0)) ρ0 n0 z0 nF zE Qq (zCall d) zt503_0 := zc_so (si_aload_n F dX5_draftSeason_0 rfl)
  (zc_so (si_getR (k := 1) F rfl inT5 (by decide) (by decide) rfl rfl tb_158 dX5_draftSeason_1)
  (zc_so (si_cV F (IH 402 mm402) mp402 (by decide) rfl rfl (by decide) tb_359 mi402 ms402 mn402 mc402 dX5_draftSeason_4)
  (zc_so (si_aload_n F dX5_draftSeason_7 rfl)
  (zc_so (si_iconst F dX5_draftSeason_8 rfl)
  (zc_so (si_putI (k := 2) F rfl inT5 (by decide) (by decide) rfl rfl rfl rfl tyX5_ok nmX5 tb_159 dX5_draftSeason_9)
  (zc_so (si_iconst F dX5_draftSeason_12 rfl)
  (zc_so (si_istore_n F dX5_draftSeason_13 rfl)
  (zc_so (si_iconst F dX5_draftSeason_14 rfl)
  (zc_so (si_istore_n F dX5_draftSeason_15 rfl)
  (zc_so (si_iload_n F dX5_draftSeason_16 rfl)
  (zc_so (si_bipush F dX5_draftSeason_17 rfl)
  (zc_so (si_icgt F dX5_draftSeason_19 rfl)
  (zc_so (si_aload_n F dX5_draftSeason_22 rfl)
  (zc_so (si_cV F (IH 505 mm505) mp505 (by decide) rfl rfl (by decide) tb_363 mi505 ms505 mn505 mc505 dX5_draftSeason_23)
  (zc_so (si_ifne F dX5_draftSeason_26 rfl)
  (zc_so (si_goto F dX5_draftSeason_29 rfl)
  (zc_so (si_aload_n F dX5_draftSeason_32 rfl)
  (zc_so (si_getI (k := 2) F rfl inT5 (by decide) (by decide) rfl rfl tb_159 dX5_draftSeason_33)
  (zc_so (si_aload_n F dX5_draftSeason_36 rfl)
  (zc_so (si_getI (k := 3) F rfl inT5 (by decide) (by decide) rfl rfl tb_160 dX5_draftSeason_37)
  (zc_so (si_icne F dX5_draftSeason_40 rfl)
  (zc_so (si_iconst F dX5_draftSeason_43 rfl)
  (zc_so (si_goto F dX5_draftSeason_44 rfl)
  (zc_so (si_iconst F dX5_draftSeason_47 rfl)
  (zc_so (si_istore_n F dX5_draftSeason_48 rfl)
  (zc_so (si_iload_n F dX5_draftSeason_49 rfl)
  (zc_so (si_ifne F dX5_draftSeason_50 rfl)
  (zc_so (si_iload_n F dX5_draftSeason_53 rfl)
  (zc_so (si_bipush F dX5_draftSeason_54 rfl)
  (zc_so (si_iceq F dX5_draftSeason_56 rfl)
  (zc_so (si_aload_n F dX5_draftSeason_59 rfl)
  (zc_so (si_bipush F dX5_draftSeason_60 rfl)
  (zc_so (si_cV F (IH 512 mm512) mp512 (by decide) rfl rfl (by decide) tb_428 mi512 ms512 mn512 mc512 dX5_draftSeason_62)
  (zc_nil))))))))))))))))))))))))))))))))))
theorem sd503_1 (F : zFx p l R s m args meth c D cid kv N0 xs Ls RX5 cX5_draftSeason 3 n0 z0 nF zE d) (IH : zAllM l D cid kv N0 xs Ls d) (hQ : ∀ v h, Qq v h → v = r0 ∧ h = hF) (hn : nF = zN hF) (hz : zE = zZ hF) (hlocks : meth.locks = false) (hr : meth.sig.returnType = (some .int)) : zSoL p l e R s m args below meth c D cid kv N0 xs Ls 3 (MQ below (zQc D cid kv N0 xs Ls ρ0 r0 hF) args s (nF - n0) (zE - z0) (zA N0)) ρ0 n0 z0 nF zE Qq (zCall d) zt503_1 := zc_so (si_ifne F dX5_draftSeason_65 rfl)
  (zc_so (si_goto F dX5_draftSeason_68 rfl)
  (zc_so (si_iinc F dX5_draftSeason_71 rfl)
  (zc_so (si_goto F dX5_draftSeason_74 rfl)
  (zc_so (si_aload_n F dX5_draftSeason_77 rfl)
  (zc_so (si_iconst F dX5_draftSeason_78 rfl)
  (zc_so (si_putI (k := 3) F rfl inT5 (by decide) (by decide) rfl rfl rfl rfl tyX5_ok nmX5 tb_160 dX5_draftSeason_79)
  (zc_so (si_iload_n F dX5_draftSeason_82 rfl)
  (zc_so (si_ifeq F dX5_draftSeason_83 rfl)
  (zc_so (si_iconst F dX5_draftSeason_86 rfl)
  (zc_so (si_goto F dX5_draftSeason_87 rfl)
  (zc_so (si_aload_n F dX5_draftSeason_90 rfl)
  (zc_so (si_getI (k := 2) F rfl inT5 (by decide) (by decide) rfl rfl tb_159 dX5_draftSeason_91)
  (zc_so (si_rI F hQ hn hz hlocks hr (fun _ _ => rfl) dX5_draftSeason_94)
  (zc_nil))))))))))))))
theorem sd503 (F : zFx p l R s m args meth c D cid kv N0 xs Ls RX5 cX5_draftSeason 3 n0 z0 nF zE d) (IH : zAllM l D cid kv N0 xs Ls d) (hQ : ∀ v h, Qq v h → v = r0 ∧ h = hF) (hn : nF = zN hF) (hz : zE = zZ hF) (hlocks : meth.locks = false) (hr : meth.sig.returnType = (some .int)) (pc : Nat) : zSo p l e R s m args below meth c D cid kv N0 xs Ls 3 (MQ below (zQc D cid kv N0 xs Ls ρ0 r0 hF) args s (nF - n0) (zE - z0) (zA N0)) ρ0 n0 z0 nF zE Qq (zCall d) pc (zTab 503 pc) := zc_tab [zt503_0, zt503_1] (zc_cons (sd503_0 F IH hQ hn hz hlocks hr) (zc_cons (sd503_1 F IH hQ hn hz hlocks hr) zc_end))
theorem dX5_handOver_0 : decode cX5_handOver 0 = .ok (.aload_n 0, 1) := by decide +kernel
theorem dX5_handOver_1 : decode cX5_handOver 1 = .ok (.getfield 18, 3) := by decide +kernel
theorem dX5_handOver_4 : decode cX5_handOver 4 = .ok (.astore_n 1, 1) := by decide +kernel
theorem dX5_handOver_5 : decode cX5_handOver 5 = .ok (.aload_n 0, 1) := by decide +kernel
theorem dX5_handOver_6 : decode cX5_handOver 6 = .ok (.new 15, 3) := by decide +kernel
theorem dX5_handOver_9 : decode cX5_handOver 9 = .ok (.dup, 1) := by decide +kernel
theorem dX5_handOver_10 : decode cX5_handOver 10 = .ok (.invokespecial 17, 3) := by decide +kernel
theorem dX5_handOver_13 : decode cX5_handOver 13 = .ok (.putfield 18, 3) := by decide +kernel
theorem dX5_handOver_16 : decode cX5_handOver 16 = .ok (.aload_n 1, 1) := by decide +kernel
theorem dX5_handOver_17 : decode cX5_handOver 17 = .ok (.areturn, 1) := by decide +kernel
theorem sd504_0 (F : zFx p l R s m args meth c D cid kv N0 xs Ls RX5 cX5_handOver 2 n0 z0 nF zE d) (IH : zAllM l D cid kv N0 xs Ls d) (hQ : ∀ v h, Qq v h → v = r0 ∧ h = hF) (hn : nF = zN hF) (hz : zE = zZ hF) (hlocks : meth.locks = false) (hr : meth.sig.returnType = (some (.object "TurnBack$Season"))) : zSoL p l e R s m args below meth c D cid kv N0 xs Ls 2 (MQ below (zQc D cid kv N0 xs Ls ρ0 r0 hF) args s (nF - n0) (zE - z0) (zA N0)) ρ0 n0 z0 nF zE Qq (zCall d) zt504_0 := zc_so (si_aload_n F dX5_handOver_0 rfl)
  (zc_so (si_getR (k := 1) F rfl inT5 (by decide) (by decide) rfl rfl tb_158 dX5_handOver_1)
  (zc_so (si_astore_n F dX5_handOver_4 rfl)
  (zc_so (si_aload_n F dX5_handOver_5 rfl)
  (zc_so (si_new F rfl inT4 (by decide) tyX4_ok nwX4 tb_138 tb_139 tb_7 dX5_handOver_6)
  (zc_so (si_dup F dX5_handOver_9)
  (zc_so (si_cIN (host := "TurnBack") F (IH 401 mm401) mp401 (by decide) rfl (by decide +kernel) mi401 mn401 mc401 dX5_handOver_10)
  (zc_so (si_putR (k := 1) F rfl inT5 (by decide) (by decide) rfl rfl rfl (fun o => by cases o <;> exact ⟨rfl, rfl⟩) rfl tyX5_ok nmX5 tb_158 dX5_handOver_13)
  (zc_so (si_aload_n F dX5_handOver_16 rfl)
  (zc_so (si_rA F hQ hn hz hlocks hr (Or.inl ⟨_, rfl⟩) dX5_handOver_17)
  (zc_nil))))))))))
theorem sd504 (F : zFx p l R s m args meth c D cid kv N0 xs Ls RX5 cX5_handOver 2 n0 z0 nF zE d) (IH : zAllM l D cid kv N0 xs Ls d) (hQ : ∀ v h, Qq v h → v = r0 ∧ h = hF) (hn : nF = zN hF) (hz : zE = zZ hF) (hlocks : meth.locks = false) (hr : meth.sig.returnType = (some (.object "TurnBack$Season"))) (pc : Nat) : zSo p l e R s m args below meth c D cid kv N0 xs Ls 2 (MQ below (zQc D cid kv N0 xs Ls ρ0 r0 hF) args s (nF - n0) (zE - z0) (zA N0)) ρ0 n0 z0 nF zE Qq (zCall d) pc (zTab 504 pc) := zc_tab [zt504_0] (zc_cons (sd504_0 F IH hQ hn hz hlocks hr) zc_end)
theorem dX5_clause_0 : decode cX5_clause 0 = .ok (.aload_n 0, 1) := by decide +kernel
theorem dX5_clause_1 : decode cX5_clause 1 = .ok (.invokevirtual 40, 3) := by decide +kernel
theorem dX5_clause_4 : decode cX5_clause 4 = .ok (.istore_n 1, 1) := by decide +kernel
theorem dX5_clause_5 : decode cX5_clause 5 = .ok (.iload_n 1, 1) := by decide +kernel
theorem dX5_clause_6 : decode cX5_clause 6 = .ok (.bipush 109, 2) := by decide +kernel
theorem dX5_clause_8 : decode cX5_clause 8 = .ok (.if_icmp .eq 14, 3) := by decide +kernel
theorem dX5_clause_11 : decode cX5_clause 11 = .ok (.iload_n 1, 1) := by decide +kernel
theorem dX5_clause_12 : decode cX5_clause 12 = .ok (.bipush 108, 2) := by decide +kernel
theorem dX5_clause_14 : decode cX5_clause 14 = .ok (.if_icmp .eq 8, 3) := by decide +kernel
theorem dX5_clause_17 : decode cX5_clause 17 = .ok (.aload_n 0, 1) := by decide +kernel
theorem dX5_clause_18 : decode cX5_clause 18 = .ok (.invokevirtual 44, 3) := by decide +kernel
theorem dX5_clause_21 : decode cX5_clause 21 = .ok (.ireturn, 1) := by decide +kernel
theorem dX5_clause_22 : decode cX5_clause 22 = .ok (.aload_n 0, 1) := by decide +kernel
theorem dX5_clause_23 : decode cX5_clause 23 = .ok (.iload_n 1, 1) := by decide +kernel
theorem dX5_clause_24 : decode cX5_clause 24 = .ok (.bipush 109, 2) := by decide +kernel
theorem dX5_clause_26 : decode cX5_clause 26 = .ok (.if_icmp .ne 8, 3) := by decide +kernel
theorem dX5_clause_29 : decode cX5_clause 29 = .ok (.ldc 47, 2) := by decide +kernel
theorem dX5_clause_31 : decode cX5_clause 31 = .ok (.goto 5, 3) := by decide +kernel
theorem dX5_clause_34 : decode cX5_clause 34 = .ok (.ldc 49, 2) := by decide +kernel
theorem dX5_clause_36 : decode cX5_clause 36 = .ok (.invokevirtual 51, 3) := by decide +kernel
theorem dX5_clause_39 : decode cX5_clause 39 = .ok (.ifCond .ne 5, 3) := by decide +kernel
theorem dX5_clause_42 : decode cX5_clause 42 = .ok (.iconst 0, 1) := by decide +kernel
theorem dX5_clause_43 : decode cX5_clause 43 = .ok (.ireturn, 1) := by decide +kernel
theorem dX5_clause_44 : decode cX5_clause 44 = .ok (.aload_n 0, 1) := by decide +kernel
theorem dX5_clause_45 : decode cX5_clause 45 = .ok (.invokevirtual 55, 3) := by decide +kernel
theorem dX5_clause_48 : decode cX5_clause 48 = .ok (.istore_n 2, 1) := by decide +kernel
theorem dX5_clause_49 : decode cX5_clause 49 = .ok (.iload_n 2, 1) := by decide +kernel
theorem dX5_clause_50 : decode cX5_clause 50 = .ok (.ifCond .lt 20, 3) := by decide +kernel
theorem dX5_clause_53 : decode cX5_clause 53 = .ok (.aload_n 0, 1) := by decide +kernel
theorem dX5_clause_54 : decode cX5_clause 54 = .ok (.bipush 32, 2) := by decide +kernel
theorem dX5_clause_56 : decode cX5_clause 56 = .ok (.invokevirtual 36, 3) := by decide +kernel
theorem dX5_clause_59 : decode cX5_clause 59 = .ok (.ifCond .eq 11, 3) := by decide +kernel
theorem dX5_clause_62 : decode cX5_clause 62 = .ok (.aload_n 0, 1) := by decide +kernel
theorem dX5_clause_63 : decode cX5_clause 63 = .ok (.iconst 0, 1) := by decide +kernel
theorem dX5_clause_64 : decode cX5_clause 64 = .ok (.invokevirtual 58, 3) := by decide +kernel
theorem dX5_clause_67 : decode cX5_clause 67 = .ok (.ifCond .ne 5, 3) := by decide +kernel
theorem dX5_clause_70 : decode cX5_clause 70 = .ok (.iconst 0, 1) := by decide +kernel
theorem dX5_clause_71 : decode cX5_clause 71 = .ok (.ireturn, 1) := by decide +kernel
theorem dX5_clause_72 : decode cX5_clause 72 = .ok (.aload_n 0, 1) := by decide +kernel
theorem dX5_clause_73 : decode cX5_clause 73 = .ok (.getfield 18, 3) := by decide +kernel
theorem dX5_clause_76 : decode cX5_clause 76 = .ok (.iload_n 1, 1) := by decide +kernel
theorem dX5_clause_77 : decode cX5_clause 77 = .ok (.iconst 0, 1) := by decide +kernel
theorem dX5_clause_78 : decode cX5_clause 78 = .ok (.iload_n 2, 1) := by decide +kernel
theorem dX5_clause_79 : decode cX5_clause 79 = .ok (.invokevirtual 62, 3) := by decide +kernel
theorem dX5_clause_82 : decode cX5_clause 82 = .ok (.iconst 1, 1) := by decide +kernel
theorem dX5_clause_83 : decode cX5_clause 83 = .ok (.ireturn, 1) := by decide +kernel
theorem sd505_0 (F : zFx p l R s m args meth c D cid kv N0 xs Ls RX5 cX5_clause 3 n0 z0 nF zE d) (IH : zAllM l D cid kv N0 xs Ls d) (hQ : ∀ v h, Qq v h → v = r0 ∧ h = hF) (hn : nF = zN hF) (hz : zE = zZ hF) (hlocks : meth.locks = false) (hr : meth.sig.returnType = (some .boolean)) : zSoL p l e R s m args below meth c D cid kv N0 xs Ls 3 (MQ below (zQc D cid kv N0 xs Ls ρ0 r0 hF) args s (nF - n0) (zE - z0) (zA N0)) ρ0 n0 z0 nF zE Qq (zCall d) zt505_0 := zc_so (si_aload_n F dX5_clause_0 rfl)
  (zc_so (si_cV F (IH 513 mm513) mp513 (by decide) rfl rfl (by decide) tb_367 mi513 ms513 mn513 mc513 dX5_clause_1)
  (zc_so (si_istore_n F dX5_clause_4 rfl)
  (zc_so (si_iload_n F dX5_clause_5 rfl)
  (zc_so (si_bipush F dX5_clause_6 rfl)
  (zc_so (si_iceq F dX5_clause_8 rfl)
  (zc_so (si_iload_n F dX5_clause_11 rfl)
  (zc_so (si_bipush F dX5_clause_12 rfl)
  (zc_so (si_iceq F dX5_clause_14 rfl)
  (zc_so (si_aload_n F dX5_clause_17 rfl)
  (zc_so (si_cV F (IH 506 mm506) mp506 (by decide) rfl rfl (by decide) tb_371 mi506 ms506 mn506 mc506 dX5_clause_18)
  (zc_so (si_rI F hQ hn hz hlocks hr (fun x h => by rcases h with rfl | rfl <;> rfl) dX5_clause_21)
  (zc_so (si_aload_n F dX5_clause_22 rfl)
  (zc_so (si_iload_n F dX5_clause_23 rfl)
  (zc_so (si_bipush F dX5_clause_24 rfl)
  (zc_so (si_icne F dX5_clause_26 rfl)
  (zc_so (si_ldcS (k := 1) F (by decide) rfl rfl dX5_clause_29)
  (zc_so (si_goto F dX5_clause_31 rfl)
  (zc_so (si_ldcS (k := 2) F (by decide) rfl rfl dX5_clause_34)
  (zc_so (si_cV F (IH 511 mm511) mp511 (by decide) rfl rfl (by decide) tb_376 mi511 ms511 mn511 mc511 dX5_clause_36)
  (zc_so (si_ifne F dX5_clause_39 rfl)
  (zc_so (si_iconst F dX5_clause_42 rfl)
  (zc_so (si_rI F hQ hn hz hlocks hr (fun x h => by rcases h with rfl | rfl <;> rfl) dX5_clause_43)
  (zc_so (si_aload_n F dX5_clause_44 rfl)
  (zc_so (si_cV F (IH 510 mm510) mp510 (by decide) rfl rfl (by decide) tb_432 mi510 ms510 mn510 mc510 dX5_clause_45)
  (zc_so (si_istore_n F dX5_clause_48 rfl)
  (zc_so (si_iload_n F dX5_clause_49 rfl)
  (zc_so (si_iflt F dX5_clause_50 rfl)
  (zc_so (si_aload_n F dX5_clause_53 rfl)
  (zc_so (si_bipush F dX5_clause_54 rfl)
  (zc_so (si_cV F (IH 512 mm512) mp512 (by decide) rfl rfl (by decide) tb_428 mi512 ms512 mn512 mc512 dX5_clause_56)
  (zc_so (si_ifeq F dX5_clause_59 rfl)
  (zc_so (si_aload_n F dX5_clause_62 rfl)
  (zc_so (si_iconst F dX5_clause_63 rfl)
  (zc_nil))))))))))))))))))))))))))))))))))
theorem sd505_1 (F : zFx p l R s m args meth c D cid kv N0 xs Ls RX5 cX5_clause 3 n0 z0 nF zE d) (IH : zAllM l D cid kv N0 xs Ls d) (hQ : ∀ v h, Qq v h → v = r0 ∧ h = hF) (hn : nF = zN hF) (hz : zE = zZ hF) (hlocks : meth.locks = false) (hr : meth.sig.returnType = (some .boolean)) : zSoL p l e R s m args below meth c D cid kv N0 xs Ls 3 (MQ below (zQc D cid kv N0 xs Ls ρ0 r0 hF) args s (nF - n0) (zE - z0) (zA N0)) ρ0 n0 z0 nF zE Qq (zCall d) zt505_1 := zc_so (si_cV F (IH 507 mm507) mp507 (by decide) rfl rfl (by decide) tb_439 mi507 ms507 mn507 mc507 dX5_clause_64)
  (zc_so (si_ifne F dX5_clause_67 rfl)
  (zc_so (si_iconst F dX5_clause_70 rfl)
  (zc_so (si_rI F hQ hn hz hlocks hr (fun x h => by rcases h with rfl | rfl <;> rfl) dX5_clause_71)
  (zc_so (si_aload_n F dX5_clause_72 rfl)
  (zc_so (si_getR (k := 1) F rfl inT5 (by decide) (by decide) rfl rfl tb_158 dX5_clause_73)
  (zc_so (si_iload_n F dX5_clause_76 rfl)
  (zc_so (si_iconst F dX5_clause_77 rfl)
  (zc_so (si_iload_n F dX5_clause_78 rfl)
  (zc_so (si_cV F (IH 403 mm403) mp403 (by decide) rfl rfl (by decide) tb_456 mi403 ms403 mn403 mc403 dX5_clause_79)
  (zc_so (si_iconst F dX5_clause_82 rfl)
  (zc_so (si_rI F hQ hn hz hlocks hr (fun x h => by rcases h with rfl | rfl <;> rfl) dX5_clause_83)
  (zc_nil))))))))))))
theorem sd505 (F : zFx p l R s m args meth c D cid kv N0 xs Ls RX5 cX5_clause 3 n0 z0 nF zE d) (IH : zAllM l D cid kv N0 xs Ls d) (hQ : ∀ v h, Qq v h → v = r0 ∧ h = hF) (hn : nF = zN hF) (hz : zE = zZ hF) (hlocks : meth.locks = false) (hr : meth.sig.returnType = (some .boolean)) (pc : Nat) : zSo p l e R s m args below meth c D cid kv N0 xs Ls 3 (MQ below (zQc D cid kv N0 xs Ls ρ0 r0 hF) args s (nF - n0) (zE - z0) (zA N0)) ρ0 n0 z0 nF zE Qq (zCall d) pc (zTab 505 pc) := zc_tab [zt505_0, zt505_1] (zc_cons (sd505_0 F IH hQ hn hz hlocks hr) (zc_cons (sd505_1 F IH hQ hn hz hlocks hr) zc_end))
theorem dX5_payClause_0 : decode cX5_payClause 0 = .ok (.aload_n 0, 1) := by decide +kernel
theorem dX5_payClause_1 : decode cX5_payClause 1 = .ok (.ldc 66, 2) := by decide +kernel
theorem dX5_payClause_3 : decode cX5_payClause 3 = .ok (.invokevirtual 51, 3) := by decide +kernel
theorem dX5_payClause_6 : decode cX5_payClause 6 = .ok (.ifCond .ne 5, 3) := by decide +kernel
theorem dX5_payClause_9 : decode cX5_payClause 9 = .ok (.iconst 0, 1) := by decide +kernel
theorem dX5_payClause_10 : decode cX5_payClause 10 = .ok (.ireturn, 1) := by decide +kernel
theorem dX5_payClause_11 : decode cX5_payClause 11 = .ok (.aload_n 0, 1) := by decide +kernel
theorem dX5_payClause_12 : decode cX5_payClause 12 = .ok (.invokevirtual 55, 3) := by decide +kernel
theorem dX5_payClause_15 : decode cX5_payClause 15 = .ok (.istore_n 1, 1) := by decide +kernel
theorem dX5_payClause_16 : decode cX5_payClause 16 = .ok (.iload_n 1, 1) := by decide +kernel
theorem dX5_payClause_17 : decode cX5_payClause 17 = .ok (.ifCond .ge 5, 3) := by decide +kernel
theorem dX5_payClause_20 : decode cX5_payClause 20 = .ok (.iconst 0, 1) := by decide +kernel
theorem dX5_payClause_21 : decode cX5_payClause 21 = .ok (.ireturn, 1) := by decide +kernel
theorem dX5_payClause_22 : decode cX5_payClause 22 = .ok (.aload_n 0, 1) := by decide +kernel
theorem dX5_payClause_23 : decode cX5_payClause 23 = .ok (.getfield 18, 3) := by decide +kernel
theorem dX5_payClause_26 : decode cX5_payClause 26 = .ok (.iload_n 1, 1) := by decide +kernel
theorem dX5_payClause_27 : decode cX5_payClause 27 = .ok (.putfield 68, 3) := by decide +kernel
theorem dX5_payClause_30 : decode cX5_payClause 30 = .ok (.iconst 1, 1) := by decide +kernel
theorem dX5_payClause_31 : decode cX5_payClause 31 = .ok (.ireturn, 1) := by decide +kernel
theorem sd506_0 (F : zFx p l R s m args meth c D cid kv N0 xs Ls RX5 cX5_payClause 2 n0 z0 nF zE d) (IH : zAllM l D cid kv N0 xs Ls d) (hQ : ∀ v h, Qq v h → v = r0 ∧ h = hF) (hn : nF = zN hF) (hz : zE = zZ hF) (hlocks : meth.locks = false) (hr : meth.sig.returnType = (some .boolean)) : zSoL p l e R s m args below meth c D cid kv N0 xs Ls 2 (MQ below (zQc D cid kv N0 xs Ls ρ0 r0 hF) args s (nF - n0) (zE - z0) (zA N0)) ρ0 n0 z0 nF zE Qq (zCall d) zt506_0 := zc_so (si_aload_n F dX5_payClause_0 rfl)
  (zc_so (si_ldcS (k := 0) F (by decide) rfl rfl dX5_payClause_1)
  (zc_so (si_cV F (IH 511 mm511) mp511 (by decide) rfl rfl (by decide) tb_376 mi511 ms511 mn511 mc511 dX5_payClause_3)
  (zc_so (si_ifne F dX5_payClause_6 rfl)
  (zc_so (si_iconst F dX5_payClause_9 rfl)
  (zc_so (si_rI F hQ hn hz hlocks hr (fun x h => by rcases h with rfl | rfl <;> rfl) dX5_payClause_10)
  (zc_so (si_aload_n F dX5_payClause_11 rfl)
  (zc_so (si_cV F (IH 510 mm510) mp510 (by decide) rfl rfl (by decide) tb_432 mi510 ms510 mn510 mc510 dX5_payClause_12)
  (zc_so (si_istore_n F dX5_payClause_15 rfl)
  (zc_so (si_iload_n F dX5_payClause_16 rfl)
  (zc_so (si_ifge F dX5_payClause_17 rfl)
  (zc_so (si_iconst F dX5_payClause_20 rfl)
  (zc_so (si_rI F hQ hn hz hlocks hr (fun x h => by rcases h with rfl | rfl <;> rfl) dX5_payClause_21)
  (zc_so (si_aload_n F dX5_payClause_22 rfl)
  (zc_so (si_getR (k := 1) F rfl inT5 (by decide) (by decide) rfl rfl tb_158 dX5_payClause_23)
  (zc_so (si_iload_n F dX5_payClause_26 rfl)
  (zc_so (si_putI (k := 2) F rfl inT4 (by decide) (by decide) rfl rfl rfl rfl tyX4_ok nmX4 tb_147 dX5_payClause_27)
  (zc_so (si_iconst F dX5_payClause_30 rfl)
  (zc_so (si_rI F hQ hn hz hlocks hr (fun x h => by rcases h with rfl | rfl <;> rfl) dX5_payClause_31)
  (zc_nil)))))))))))))))))))
theorem sd506 (F : zFx p l R s m args meth c D cid kv N0 xs Ls RX5 cX5_payClause 2 n0 z0 nF zE d) (IH : zAllM l D cid kv N0 xs Ls d) (hQ : ∀ v h, Qq v h → v = r0 ∧ h = hF) (hn : nF = zN hF) (hz : zE = zZ hF) (hlocks : meth.locks = false) (hr : meth.sig.returnType = (some .boolean)) (pc : Nat) : zSo p l e R s m args below meth c D cid kv N0 xs Ls 2 (MQ below (zQc D cid kv N0 xs Ls ρ0 r0 hF) args s (nF - n0) (zE - z0) (zA N0)) ρ0 n0 z0 nF zE Qq (zCall d) pc (zTab 506 pc) := zc_tab [zt506_0] (zc_cons (sd506_0 F IH hQ hn hz hlocks hr) zc_end)
theorem dX5_expression_0 : decode cX5_expression 0 = .ok (.iconst 0, 1) := by decide +kernel
theorem dX5_expression_1 : decode cX5_expression 1 = .ok (.istore_n 2, 1) := by decide +kernel
theorem dX5_expression_2 : decode cX5_expression 2 = .ok (.iconst 0, 1) := by decide +kernel
theorem dX5_expression_3 : decode cX5_expression 3 = .ok (.istore_n 3, 1) := by decide +kernel
theorem dX5_expression_4 : decode cX5_expression 4 = .ok (.iconst 0, 1) := by decide +kernel
theorem dX5_expression_5 : decode cX5_expression 5 = .ok (.istore 4, 2) := by decide +kernel
theorem dX5_expression_7 : decode cX5_expression 7 = .ok (.iload 4, 2) := by decide +kernel
theorem dX5_expression_9 : decode cX5_expression 9 = .ok (.bipush 100, 2) := by decide +kernel
theorem dX5_expression_11 : decode cX5_expression 11 = .ok (.if_icmp .ge 73, 3) := by decide +kernel
theorem dX5_expression_14 : decode cX5_expression 14 = .ok (.aload_n 0, 1) := by decide +kernel
theorem dX5_expression_15 : decode cX5_expression 15 = .ok (.iload_n 1, 1) := by decide +kernel
theorem dX5_expression_16 : decode cX5_expression 16 = .ok (.invokevirtual 71, 3) := by decide +kernel
theorem dX5_expression_19 : decode cX5_expression 19 = .ok (.ifCond .ne 5, 3) := by decide +kernel
theorem dX5_expression_22 : decode cX5_expression 22 = .ok (.iconst 0, 1) := by decide +kernel
theorem dX5_expression_23 : decode cX5_expression 23 = .ok (.ireturn, 1) := by decide +kernel
theorem dX5_expression_24 : decode cX5_expression 24 = .ok (.iload_n 2, 1) := by decide +kernel
theorem dX5_expression_25 : decode cX5_expression 25 = .ok (.ifCond .eq 14, 3) := by decide +kernel
theorem dX5_expression_28 : decode cX5_expression 28 = .ok (.aload_n 0, 1) := by decide +kernel
theorem dX5_expression_29 : decode cX5_expression 29 = .ok (.getfield 18, 3) := by decide +kernel
theorem dX5_expression_32 : decode cX5_expression 32 = .ok (.bipush 38, 2) := by decide +kernel
theorem dX5_expression_34 : decode cX5_expression 34 = .ok (.iconst 0, 1) := by decide +kernel
theorem dX5_expression_35 : decode cX5_expression 35 = .ok (.iconst 0, 1) := by decide +kernel
theorem dX5_expression_36 : decode cX5_expression 36 = .ok (.invokevirtual 62, 3) := by decide +kernel
theorem dX5_expression_39 : decode cX5_expression 39 = .ok (.aload_n 0, 1) := by decide +kernel
theorem dX5_expression_40 : decode cX5_expression 40 = .ok (.bipush 38, 2) := by decide +kernel
theorem dX5_expression_42 : decode cX5_expression 42 = .ok (.invokevirtual 36, 3) := by decide +kernel
theorem dX5_expression_45 : decode cX5_expression 45 = .ok (.istore_n 2, 1) := by decide +kernel
theorem dX5_expression_46 : decode cX5_expression 46 = .ok (.iload_n 2, 1) := by decide +kernel
theorem dX5_expression_47 : decode cX5_expression 47 = .ok (.ifCond .ne 31, 3) := by decide +kernel
theorem dX5_expression_50 : decode cX5_expression 50 = .ok (.iload_n 3, 1) := by decide +kernel
theorem dX5_expression_51 : decode cX5_expression 51 = .ok (.ifCond .eq 14, 3) := by decide +kernel
theorem dX5_expression_54 : decode cX5_expression 54 = .ok (.aload_n 0, 1) := by decide +kernel
theorem dX5_expression_55 : decode cX5_expression 55 = .ok (.getfield 18, 3) := by decide +kernel
theorem dX5_expression_58 : decode cX5_expression 58 = .ok (.bipush 124, 2) := by decide +kernel
theorem dX5_expression_60 : decode cX5_expression 60 = .ok (.iconst 0, 1) := by decide +kernel
theorem dX5_expression_61 : decode cX5_expression 61 = .ok (.iconst 0, 1) := by decide +kernel
theorem dX5_expression_62 : decode cX5_expression 62 = .ok (.invokevirtual 62, 3) := by decide +kernel
theorem dX5_expression_65 : decode cX5_expression 65 = .ok (.aload_n 0, 1) := by decide +kernel
theorem dX5_expression_66 : decode cX5_expression 66 = .ok (.bipush 124, 2) := by decide +kernel
theorem dX5_expression_68 : decode cX5_expression 68 = .ok (.invokevirtual 36, 3) := by decide +kernel
theorem dX5_expression_71 : decode cX5_expression 71 = .ok (.istore_n 3, 1) := by decide +kernel
theorem dX5_expression_72 : decode cX5_expression 72 = .ok (.iload_n 3, 1) := by decide +kernel
theorem dX5_expression_73 : decode cX5_expression 73 = .ok (.ifCond .ne 5, 3) := by decide +kernel
theorem dX5_expression_76 : decode cX5_expression 76 = .ok (.iconst 1, 1) := by decide +kernel
theorem dX5_expression_77 : decode cX5_expression 77 = .ok (.ireturn, 1) := by decide +kernel
theorem dX5_expression_78 : decode cX5_expression 78 = .ok (.iinc 4 1, 3) := by decide +kernel
theorem dX5_expression_81 : decode cX5_expression 81 = .ok (.goto (-74), 3) := by decide +kernel
theorem dX5_expression_84 : decode cX5_expression 84 = .ok (.iconst 0, 1) := by decide +kernel
theorem dX5_expression_85 : decode cX5_expression 85 = .ok (.ireturn, 1) := by decide +kernel
theorem sd507_0 (F : zFx p l R s m args meth c D cid kv N0 xs Ls RX5 cX5_expression 5 n0 z0 nF zE d) (IH : zAllM l D cid kv N0 xs Ls d) (hQ : ∀ v h, Qq v h → v = r0 ∧ h = hF) (hn : nF = zN hF) (hz : zE = zZ hF) (hlocks : meth.locks = false) (hr : meth.sig.returnType = (some .boolean)) : zSoL p l e R s m args below meth c D cid kv N0 xs Ls 5 (MQ below (zQc D cid kv N0 xs Ls ρ0 r0 hF) args s (nF - n0) (zE - z0) (zA N0)) ρ0 n0 z0 nF zE Qq (zCall d) zt507_0 := zc_so (si_iconst F dX5_expression_0 rfl)
  (zc_so (si_istore_n F dX5_expression_1 rfl)
  (zc_so (si_iconst F dX5_expression_2 rfl)
  (zc_so (si_istore_n F dX5_expression_3 rfl)
  (zc_so (si_iconst F dX5_expression_4 rfl)
  (zc_so (si_istore F dX5_expression_5)
  (zc_so (si_iload F dX5_expression_7)
  (zc_so (si_bipush F dX5_expression_9 rfl)
  (zc_so (si_icge F dX5_expression_11 rfl)
  (zc_so (si_aload_n F dX5_expression_14 rfl)
  (zc_so (si_iload_n F dX5_expression_15 rfl)
  (zc_so (si_cV F (IH 508 mm508) mp508 (by decide) rfl rfl (by decide) tb_443 mi508 ms508 mn508 mc508 dX5_expression_16)
  (zc_so (si_ifne F dX5_expression_19 rfl)
  (zc_so (si_iconst F dX5_expression_22 rfl)
  (zc_so (si_rI F hQ hn hz hlocks hr (fun x h => by rcases h with rfl | rfl <;> rfl) dX5_expression_23)
  (zc_so (si_iload_n F dX5_expression_24 rfl)
  (zc_so (si_ifeq F dX5_expression_25 rfl)
  (zc_so (si_aload_n F dX5_expression_28 rfl)
  (zc_so (si_getR (k := 1) F rfl inT5 (by decide) (by decide) rfl rfl tb_158 dX5_expression_29)
  (zc_so (si_bipush F dX5_expression_32 rfl)
  (zc_so (si_iconst F dX5_expression_34 rfl)
  (zc_so (si_iconst F dX5_expression_35 rfl)
  (zc_so (si_cV F (IH 403 mm403) mp403 (by decide) rfl rfl (by decide) tb_456 mi403 ms403 mn403 mc403 dX5_expression_36)
  (zc_so (si_aload_n F dX5_expression_39 rfl)
  (zc_so (si_bipush F dX5_expression_40 rfl)
  (zc_so (si_cV F (IH 512 mm512) mp512 (by decide) rfl rfl (by decide) tb_428 mi512 ms512 mn512 mc512 dX5_expression_42)
  (zc_so (si_istore_n F dX5_expression_45 rfl)
  (zc_so (si_iload_n F dX5_expression_46 rfl)
  (zc_so (si_ifne F dX5_expression_47 rfl)
  (zc_so (si_iload_n F dX5_expression_50 rfl)
  (zc_so (si_ifeq F dX5_expression_51 rfl)
  (zc_so (si_aload_n F dX5_expression_54 rfl)
  (zc_so (si_getR (k := 1) F rfl inT5 (by decide) (by decide) rfl rfl tb_158 dX5_expression_55)
  (zc_so (si_bipush F dX5_expression_58 rfl)
  (zc_so (si_iconst F dX5_expression_60 rfl)
  (zc_so (si_iconst F dX5_expression_61 rfl)
  (zc_so (si_cV F (IH 403 mm403) mp403 (by decide) rfl rfl (by decide) tb_456 mi403 ms403 mn403 mc403 dX5_expression_62)
  (zc_nil)))))))))))))))))))))))))))))))))))))
theorem sd507_1 (F : zFx p l R s m args meth c D cid kv N0 xs Ls RX5 cX5_expression 5 n0 z0 nF zE d) (IH : zAllM l D cid kv N0 xs Ls d) (hQ : ∀ v h, Qq v h → v = r0 ∧ h = hF) (hn : nF = zN hF) (hz : zE = zZ hF) (hlocks : meth.locks = false) (hr : meth.sig.returnType = (some .boolean)) : zSoL p l e R s m args below meth c D cid kv N0 xs Ls 5 (MQ below (zQc D cid kv N0 xs Ls ρ0 r0 hF) args s (nF - n0) (zE - z0) (zA N0)) ρ0 n0 z0 nF zE Qq (zCall d) zt507_1 := zc_so (si_aload_n F dX5_expression_65 rfl)
  (zc_so (si_bipush F dX5_expression_66 rfl)
  (zc_so (si_cV F (IH 512 mm512) mp512 (by decide) rfl rfl (by decide) tb_428 mi512 ms512 mn512 mc512 dX5_expression_68)
  (zc_so (si_istore_n F dX5_expression_71 rfl)
  (zc_so (si_iload_n F dX5_expression_72 rfl)
  (zc_so (si_ifne F dX5_expression_73 rfl)
  (zc_so (si_iconst F dX5_expression_76 rfl)
  (zc_so (si_rI F hQ hn hz hlocks hr (fun x h => by rcases h with rfl | rfl <;> rfl) dX5_expression_77)
  (zc_so (si_iinc F dX5_expression_78 rfl)
  (zc_so (si_goto F dX5_expression_81 rfl)
  (zc_so (si_iconst F dX5_expression_84 rfl)
  (zc_so (si_rI F hQ hn hz hlocks hr (fun x h => by rcases h with rfl | rfl <;> rfl) dX5_expression_85)
  (zc_nil))))))))))))
theorem sd507 (F : zFx p l R s m args meth c D cid kv N0 xs Ls RX5 cX5_expression 5 n0 z0 nF zE d) (IH : zAllM l D cid kv N0 xs Ls d) (hQ : ∀ v h, Qq v h → v = r0 ∧ h = hF) (hn : nF = zN hF) (hz : zE = zZ hF) (hlocks : meth.locks = false) (hr : meth.sig.returnType = (some .boolean)) (pc : Nat) : zSo p l e R s m args below meth c D cid kv N0 xs Ls 5 (MQ below (zQc D cid kv N0 xs Ls ρ0 r0 hF) args s (nF - n0) (zE - z0) (zA N0)) ρ0 n0 z0 nF zE Qq (zCall d) pc (zTab 507 pc) := zc_tab [zt507_0, zt507_1] (zc_cons (sd507_0 F IH hQ hn hz hlocks hr) (zc_cons (sd507_1 F IH hQ hn hz hlocks hr) zc_end))
theorem dX5_factor_0 : decode cX5_factor 0 = .ok (.aload_n 0, 1) := by decide +kernel
theorem dX5_factor_1 : decode cX5_factor 1 = .ok (.invokevirtual 40, 3) := by decide +kernel
theorem dX5_factor_4 : decode cX5_factor 4 = .ok (.istore_n 2, 1) := by decide +kernel
theorem dX5_factor_5 : decode cX5_factor 5 = .ok (.iload_n 2, 1) := by decide +kernel
theorem dX5_factor_6 : decode cX5_factor 6 = .ok (.bipush 33, 2) := by decide +kernel
theorem dX5_factor_8 : decode cX5_factor 8 = .ok (.if_icmp .eq 14, 3) := by decide +kernel
theorem dX5_factor_11 : decode cX5_factor 11 = .ok (.iload_n 2, 1) := by decide +kernel
theorem dX5_factor_12 : decode cX5_factor 12 = .ok (.bipush 40, 2) := by decide +kernel
theorem dX5_factor_14 : decode cX5_factor 14 = .ok (.if_icmp .eq 8, 3) := by decide +kernel
theorem dX5_factor_17 : decode cX5_factor 17 = .ok (.aload_n 0, 1) := by decide +kernel
theorem dX5_factor_18 : decode cX5_factor 18 = .ok (.invokevirtual 74, 3) := by decide +kernel
theorem dX5_factor_21 : decode cX5_factor 21 = .ok (.ireturn, 1) := by decide +kernel
theorem dX5_factor_22 : decode cX5_factor 22 = .ok (.iload_n 1, 1) := by decide +kernel
theorem dX5_factor_23 : decode cX5_factor 23 = .ok (.iconst 4, 1) := by decide +kernel
theorem dX5_factor_24 : decode cX5_factor 24 = .ok (.if_icmp .lt 5, 3) := by decide +kernel
theorem dX5_factor_27 : decode cX5_factor 27 = .ok (.iconst 0, 1) := by decide +kernel
theorem dX5_factor_28 : decode cX5_factor 28 = .ok (.ireturn, 1) := by decide +kernel
theorem dX5_factor_29 : decode cX5_factor 29 = .ok (.aload_n 0, 1) := by decide +kernel
theorem dX5_factor_30 : decode cX5_factor 30 = .ok (.dup, 1) := by decide +kernel
theorem dX5_factor_31 : decode cX5_factor 31 = .ok (.getfield 29, 3) := by decide +kernel
theorem dX5_factor_34 : decode cX5_factor 34 = .ok (.iconst 1, 1) := by decide +kernel
theorem dX5_factor_35 : decode cX5_factor 35 = .ok (.iadd, 1) := by decide +kernel
theorem dX5_factor_36 : decode cX5_factor 36 = .ok (.putfield 29, 3) := by decide +kernel
theorem dX5_factor_39 : decode cX5_factor 39 = .ok (.iload_n 2, 1) := by decide +kernel
theorem dX5_factor_40 : decode cX5_factor 40 = .ok (.bipush 40, 2) := by decide +kernel
theorem dX5_factor_42 : decode cX5_factor 42 = .ok (.if_icmp .ne 28, 3) := by decide +kernel
theorem dX5_factor_45 : decode cX5_factor 45 = .ok (.aload_n 0, 1) := by decide +kernel
theorem dX5_factor_46 : decode cX5_factor 46 = .ok (.iload_n 1, 1) := by decide +kernel
theorem dX5_factor_47 : decode cX5_factor 47 = .ok (.iconst 1, 1) := by decide +kernel
theorem dX5_factor_48 : decode cX5_factor 48 = .ok (.iadd, 1) := by decide +kernel
theorem dX5_factor_49 : decode cX5_factor 49 = .ok (.invokevirtual 58, 3) := by decide +kernel
theorem dX5_factor_52 : decode cX5_factor 52 = .ok (.ifCond .eq 16, 3) := by decide +kernel
theorem dX5_factor_55 : decode cX5_factor 55 = .ok (.aload_n 0, 1) := by decide +kernel
theorem dX5_factor_56 : decode cX5_factor 56 = .ok (.bipush 41, 2) := by decide +kernel
theorem dX5_factor_58 : decode cX5_factor 58 = .ok (.invokevirtual 36, 3) := by decide +kernel
theorem dX5_factor_61 : decode cX5_factor 61 = .ok (.ifCond .eq 7, 3) := by decide +kernel
theorem dX5_factor_64 : decode cX5_factor 64 = .ok (.iconst 1, 1) := by decide +kernel
theorem dX5_factor_65 : decode cX5_factor 65 = .ok (.goto 4, 3) := by decide +kernel
theorem dX5_factor_68 : decode cX5_factor 68 = .ok (.iconst 0, 1) := by decide +kernel
theorem dX5_factor_69 : decode cX5_factor 69 = .ok (.ireturn, 1) := by decide +kernel
theorem dX5_factor_70 : decode cX5_factor 70 = .ok (.aload_n 0, 1) := by decide +kernel
theorem dX5_factor_71 : decode cX5_factor 71 = .ok (.iload_n 1, 1) := by decide +kernel
theorem dX5_factor_72 : decode cX5_factor 72 = .ok (.iconst 1, 1) := by decide +kernel
theorem dX5_factor_73 : decode cX5_factor 73 = .ok (.iadd, 1) := by decide +kernel
theorem dX5_factor_74 : decode cX5_factor 74 = .ok (.invokevirtual 71, 3) := by decide +kernel
theorem dX5_factor_77 : decode cX5_factor 77 = .ok (.ifCond .ne 5, 3) := by decide +kernel
theorem dX5_factor_80 : decode cX5_factor 80 = .ok (.iconst 0, 1) := by decide +kernel
theorem dX5_factor_81 : decode cX5_factor 81 = .ok (.ireturn, 1) := by decide +kernel
theorem dX5_factor_82 : decode cX5_factor 82 = .ok (.aload_n 0, 1) := by decide +kernel
theorem dX5_factor_83 : decode cX5_factor 83 = .ok (.getfield 18, 3) := by decide +kernel
theorem dX5_factor_86 : decode cX5_factor 86 = .ok (.bipush 33, 2) := by decide +kernel
theorem dX5_factor_88 : decode cX5_factor 88 = .ok (.iconst 0, 1) := by decide +kernel
theorem dX5_factor_89 : decode cX5_factor 89 = .ok (.iconst 0, 1) := by decide +kernel
theorem dX5_factor_90 : decode cX5_factor 90 = .ok (.invokevirtual 62, 3) := by decide +kernel
theorem dX5_factor_93 : decode cX5_factor 93 = .ok (.iconst 1, 1) := by decide +kernel
theorem dX5_factor_94 : decode cX5_factor 94 = .ok (.ireturn, 1) := by decide +kernel
theorem sd508_0 (F : zFx p l R s m args meth c D cid kv N0 xs Ls RX5 cX5_factor 3 n0 z0 nF zE d) (IH : zAllM l D cid kv N0 xs Ls d) (hQ : ∀ v h, Qq v h → v = r0 ∧ h = hF) (hn : nF = zN hF) (hz : zE = zZ hF) (hlocks : meth.locks = false) (hr : meth.sig.returnType = (some .boolean)) : zSoL p l e R s m args below meth c D cid kv N0 xs Ls 3 (MQ below (zQc D cid kv N0 xs Ls ρ0 r0 hF) args s (nF - n0) (zE - z0) (zA N0)) ρ0 n0 z0 nF zE Qq (zCall d) zt508_0 := zc_so (si_aload_n F dX5_factor_0 rfl)
  (zc_so (si_cV F (IH 513 mm513) mp513 (by decide) rfl rfl (by decide) tb_367 mi513 ms513 mn513 mc513 dX5_factor_1)
  (zc_so (si_istore_n F dX5_factor_4 rfl)
  (zc_so (si_iload_n F dX5_factor_5 rfl)
  (zc_so (si_bipush F dX5_factor_6 rfl)
  (zc_so (si_iceq F dX5_factor_8 rfl)
  (zc_so (si_iload_n F dX5_factor_11 rfl)
  (zc_so (si_bipush F dX5_factor_12 rfl)
  (zc_so (si_iceq F dX5_factor_14 rfl)
  (zc_so (si_aload_n F dX5_factor_17 rfl)
  (zc_so (si_cV F (IH 509 mm509) mp509 (by decide) rfl rfl (by decide) tb_447 mi509 ms509 mn509 mc509 dX5_factor_18)
  (zc_so (si_rI F hQ hn hz hlocks hr (fun x h => by rcases h with rfl | rfl <;> rfl) dX5_factor_21)
  (zc_so (si_iload_n F dX5_factor_22 rfl)
  (zc_so (si_iconst F dX5_factor_23 rfl)
  (zc_so (si_iclt F dX5_factor_24 rfl)
  (zc_so (si_iconst F dX5_factor_27 rfl)
  (zc_so (si_rI F hQ hn hz hlocks hr (fun x h => by rcases h with rfl | rfl <;> rfl) dX5_factor_28)
  (zc_so (si_aload_n F dX5_factor_29 rfl)
  (zc_so (si_dup F dX5_factor_30)
  (zc_so (si_getI (k := 2) F rfl inT5 (by decide) (by decide) rfl rfl tb_159 dX5_factor_31)
  (zc_so (si_iconst F dX5_factor_34 rfl)
  (zc_so (si_iadd F dX5_factor_35)
  (zc_so (si_putI (k := 2) F rfl inT5 (by decide) (by decide) rfl rfl rfl rfl tyX5_ok nmX5 tb_159 dX5_factor_36)
  (zc_so (si_iload_n F dX5_factor_39 rfl)
  (zc_so (si_bipush F dX5_factor_40 rfl)
  (zc_so (si_icne F dX5_factor_42 rfl)
  (zc_so (si_aload_n F dX5_factor_45 rfl)
  (zc_so (si_iload_n F dX5_factor_46 rfl)
  (zc_so (si_iconst F dX5_factor_47 rfl)
  (zc_so (si_iadd F dX5_factor_48)
  (zc_so (si_cV F (IH 507 mm507) mp507 (by decide) rfl rfl (by decide) tb_439 mi507 ms507 mn507 mc507 dX5_factor_49)
  (zc_so (si_ifeq F dX5_factor_52 rfl)
  (zc_so (si_aload_n F dX5_factor_55 rfl)
  (zc_so (si_bipush F dX5_factor_56 rfl)
  (zc_so (si_cV F (IH 512 mm512) mp512 (by decide) rfl rfl (by decide) tb_428 mi512 ms512 mn512 mc512 dX5_factor_58)
  (zc_so (si_ifeq F dX5_factor_61 rfl)
  (zc_nil))))))))))))))))))))))))))))))))))))
theorem sd508_1 (F : zFx p l R s m args meth c D cid kv N0 xs Ls RX5 cX5_factor 3 n0 z0 nF zE d) (IH : zAllM l D cid kv N0 xs Ls d) (hQ : ∀ v h, Qq v h → v = r0 ∧ h = hF) (hn : nF = zN hF) (hz : zE = zZ hF) (hlocks : meth.locks = false) (hr : meth.sig.returnType = (some .boolean)) : zSoL p l e R s m args below meth c D cid kv N0 xs Ls 3 (MQ below (zQc D cid kv N0 xs Ls ρ0 r0 hF) args s (nF - n0) (zE - z0) (zA N0)) ρ0 n0 z0 nF zE Qq (zCall d) zt508_1 := zc_so (si_iconst F dX5_factor_64 rfl)
  (zc_so (si_goto F dX5_factor_65 rfl)
  (zc_so (si_iconst F dX5_factor_68 rfl)
  (zc_so (si_rI F hQ hn hz hlocks hr (fun x h => by rcases h with rfl | rfl <;> rfl) dX5_factor_69)
  (zc_so (si_aload_n F dX5_factor_70 rfl)
  (zc_so (si_iload_n F dX5_factor_71 rfl)
  (zc_so (si_iconst F dX5_factor_72 rfl)
  (zc_so (si_iadd F dX5_factor_73)
  (zc_so (si_cV F (IH 508 mm508) mp508 (by decide) rfl rfl (by decide) tb_443 mi508 ms508 mn508 mc508 dX5_factor_74)
  (zc_so (si_ifne F dX5_factor_77 rfl)
  (zc_so (si_iconst F dX5_factor_80 rfl)
  (zc_so (si_rI F hQ hn hz hlocks hr (fun x h => by rcases h with rfl | rfl <;> rfl) dX5_factor_81)
  (zc_so (si_aload_n F dX5_factor_82 rfl)
  (zc_so (si_getR (k := 1) F rfl inT5 (by decide) (by decide) rfl rfl tb_158 dX5_factor_83)
  (zc_so (si_bipush F dX5_factor_86 rfl)
  (zc_so (si_iconst F dX5_factor_88 rfl)
  (zc_so (si_iconst F dX5_factor_89 rfl)
  (zc_so (si_cV F (IH 403 mm403) mp403 (by decide) rfl rfl (by decide) tb_456 mi403 ms403 mn403 mc403 dX5_factor_90)
  (zc_so (si_iconst F dX5_factor_93 rfl)
  (zc_so (si_rI F hQ hn hz hlocks hr (fun x h => by rcases h with rfl | rfl <;> rfl) dX5_factor_94)
  (zc_nil))))))))))))))))))))
theorem sd508 (F : zFx p l R s m args meth c D cid kv N0 xs Ls RX5 cX5_factor 3 n0 z0 nF zE d) (IH : zAllM l D cid kv N0 xs Ls d) (hQ : ∀ v h, Qq v h → v = r0 ∧ h = hF) (hn : nF = zN hF) (hz : zE = zZ hF) (hlocks : meth.locks = false) (hr : meth.sig.returnType = (some .boolean)) (pc : Nat) : zSo p l e R s m args below meth c D cid kv N0 xs Ls 3 (MQ below (zQc D cid kv N0 xs Ls ρ0 r0 hF) args s (nF - n0) (zE - z0) (zA N0)) ρ0 n0 z0 nF zE Qq (zCall d) pc (zTab 508 pc) := zc_tab [zt508_0, zt508_1] (zc_cons (sd508_0 F IH hQ hn hz hlocks hr) (zc_cons (sd508_1 F IH hQ hn hz hlocks hr) zc_end))
theorem dX5_test_0 : decode cX5_test 0 = .ok (.aload_n 0, 1) := by decide +kernel
theorem dX5_test_1 : decode cX5_test 1 = .ok (.invokevirtual 40, 3) := by decide +kernel
theorem dX5_test_4 : decode cX5_test 4 = .ok (.istore_n 1, 1) := by decide +kernel
theorem dX5_test_5 : decode cX5_test 5 = .ok (.iload_n 1, 1) := by decide +kernel
theorem dX5_test_6 : decode cX5_test 6 = .ok (.ldc 77, 2) := by decide +kernel
theorem dX5_test_8 : decode cX5_test 8 = .ok (.invokestatic 79, 3) := by decide +kernel
theorem dX5_test_11 : decode cX5_test 11 = .ok (.ifCond .ne 5, 3) := by decide +kernel
theorem dX5_test_14 : decode cX5_test 14 = .ok (.iconst 0, 1) := by decide +kernel
theorem dX5_test_15 : decode cX5_test 15 = .ok (.ireturn, 1) := by decide +kernel
theorem dX5_test_16 : decode cX5_test 16 = .ok (.aload_n 0, 1) := by decide +kernel
theorem dX5_test_17 : decode cX5_test 17 = .ok (.dup, 1) := by decide +kernel
theorem dX5_test_18 : decode cX5_test 18 = .ok (.getfield 29, 3) := by decide +kernel
theorem dX5_test_21 : decode cX5_test 21 = .ok (.iconst 1, 1) := by decide +kernel
theorem dX5_test_22 : decode cX5_test 22 = .ok (.iadd, 1) := by decide +kernel
theorem dX5_test_23 : decode cX5_test 23 = .ok (.putfield 29, 3) := by decide +kernel
theorem dX5_test_26 : decode cX5_test 26 = .ok (.aload_n 0, 1) := by decide +kernel
theorem dX5_test_27 : decode cX5_test 27 = .ok (.invokevirtual 40, 3) := by decide +kernel
theorem dX5_test_30 : decode cX5_test 30 = .ok (.istore_n 2, 1) := by decide +kernel
theorem dX5_test_31 : decode cX5_test 31 = .ok (.iload_n 2, 1) := by decide +kernel
theorem dX5_test_32 : decode cX5_test 32 = .ok (.ldc 83, 2) := by decide +kernel
theorem dX5_test_34 : decode cX5_test 34 = .ok (.invokestatic 79, 3) := by decide +kernel
theorem dX5_test_37 : decode cX5_test 37 = .ok (.ifCond .ne 5, 3) := by decide +kernel
theorem dX5_test_40 : decode cX5_test 40 = .ok (.iconst 0, 1) := by decide +kernel
theorem dX5_test_41 : decode cX5_test 41 = .ok (.ireturn, 1) := by decide +kernel
theorem dX5_test_42 : decode cX5_test 42 = .ok (.aload_n 0, 1) := by decide +kernel
theorem dX5_test_43 : decode cX5_test 43 = .ok (.dup, 1) := by decide +kernel
theorem dX5_test_44 : decode cX5_test 44 = .ok (.getfield 29, 3) := by decide +kernel
theorem dX5_test_47 : decode cX5_test 47 = .ok (.iconst 1, 1) := by decide +kernel
theorem dX5_test_48 : decode cX5_test 48 = .ok (.iadd, 1) := by decide +kernel
theorem dX5_test_49 : decode cX5_test 49 = .ok (.putfield 29, 3) := by decide +kernel
theorem dX5_test_52 : decode cX5_test 52 = .ok (.aload_n 0, 1) := by decide +kernel
theorem dX5_test_53 : decode cX5_test 53 = .ok (.invokevirtual 55, 3) := by decide +kernel
theorem dX5_test_56 : decode cX5_test 56 = .ok (.istore_n 3, 1) := by decide +kernel
theorem dX5_test_57 : decode cX5_test 57 = .ok (.iload_n 3, 1) := by decide +kernel
theorem dX5_test_58 : decode cX5_test 58 = .ok (.ifCond .ge 5, 3) := by decide +kernel
theorem dX5_test_61 : decode cX5_test 61 = .ok (.iconst 0, 1) := by decide +kernel
theorem dX5_test_62 : decode cX5_test 62 = .ok (.ireturn, 1) := by decide +kernel
theorem dX5_test_63 : decode cX5_test 63 = .ok (.aload_n 0, 1) := by decide +kernel
theorem dX5_test_64 : decode cX5_test 64 = .ok (.getfield 18, 3) := by decide +kernel
theorem dX5_test_67 : decode cX5_test 67 = .ok (.iload_n 1, 1) := by decide +kernel
theorem dX5_test_68 : decode cX5_test 68 = .ok (.iload_n 2, 1) := by decide +kernel
theorem dX5_test_69 : decode cX5_test 69 = .ok (.iload_n 3, 1) := by decide +kernel
theorem dX5_test_70 : decode cX5_test 70 = .ok (.invokevirtual 62, 3) := by decide +kernel
theorem dX5_test_73 : decode cX5_test 73 = .ok (.iconst 1, 1) := by decide +kernel
theorem dX5_test_74 : decode cX5_test 74 = .ok (.ireturn, 1) := by decide +kernel
theorem sd509_0 (F : zFx p l R s m args meth c D cid kv N0 xs Ls RX5 cX5_test 4 n0 z0 nF zE d) (IH : zAllM l D cid kv N0 xs Ls d) (hQ : ∀ v h, Qq v h → v = r0 ∧ h = hF) (hn : nF = zN hF) (hz : zE = zZ hF) (hlocks : meth.locks = false) (hr : meth.sig.returnType = (some .boolean)) : zSoL p l e R s m args below meth c D cid kv N0 xs Ls 4 (MQ below (zQc D cid kv N0 xs Ls ρ0 r0 hF) args s (nF - n0) (zE - z0) (zA N0)) ρ0 n0 z0 nF zE Qq (zCall d) zt509_0 := zc_so (si_aload_n F dX5_test_0 rfl)
  (zc_so (si_cV F (IH 513 mm513) mp513 (by decide) rfl rfl (by decide) tb_367 mi513 ms513 mn513 mc513 dX5_test_1)
  (zc_so (si_istore_n F dX5_test_4 rfl)
  (zc_so (si_iload_n F dX5_test_5 rfl)
  (zc_so (si_ldcS (k := 3) F (by decide) rfl rfl dX5_test_6)
  (zc_so (si_cS  F (IH 514 mm514) mp514 (by decide) tb_452 mi514 mn514 mc514 dX5_test_8)
  (zc_so (si_ifne F dX5_test_11 rfl)
  (zc_so (si_iconst F dX5_test_14 rfl)
  (zc_so (si_rI F hQ hn hz hlocks hr (fun x h => by rcases h with rfl | rfl <;> rfl) dX5_test_15)
  (zc_so (si_aload_n F dX5_test_16 rfl)
  (zc_so (si_dup F dX5_test_17)
  (zc_so (si_getI (k := 2) F rfl inT5 (by decide) (by decide) rfl rfl tb_159 dX5_test_18)
  (zc_so (si_iconst F dX5_test_21 rfl)
  (zc_so (si_iadd F dX5_test_22)
  (zc_so (si_putI (k := 2) F rfl inT5 (by decide) (by decide) rfl rfl rfl rfl tyX5_ok nmX5 tb_159 dX5_test_23)
  (zc_so (si_aload_n F dX5_test_26 rfl)
  (zc_so (si_cV F (IH 513 mm513) mp513 (by decide) rfl rfl (by decide) tb_367 mi513 ms513 mn513 mc513 dX5_test_27)
  (zc_so (si_istore_n F dX5_test_30 rfl)
  (zc_so (si_iload_n F dX5_test_31 rfl)
  (zc_so (si_ldcS (k := 4) F (by decide) rfl rfl dX5_test_32)
  (zc_so (si_cS  F (IH 514 mm514) mp514 (by decide) tb_452 mi514 mn514 mc514 dX5_test_34)
  (zc_so (si_ifne F dX5_test_37 rfl)
  (zc_so (si_iconst F dX5_test_40 rfl)
  (zc_so (si_rI F hQ hn hz hlocks hr (fun x h => by rcases h with rfl | rfl <;> rfl) dX5_test_41)
  (zc_so (si_aload_n F dX5_test_42 rfl)
  (zc_so (si_dup F dX5_test_43)
  (zc_so (si_getI (k := 2) F rfl inT5 (by decide) (by decide) rfl rfl tb_159 dX5_test_44)
  (zc_so (si_iconst F dX5_test_47 rfl)
  (zc_so (si_iadd F dX5_test_48)
  (zc_so (si_putI (k := 2) F rfl inT5 (by decide) (by decide) rfl rfl rfl rfl tyX5_ok nmX5 tb_159 dX5_test_49)
  (zc_so (si_aload_n F dX5_test_52 rfl)
  (zc_so (si_cV F (IH 510 mm510) mp510 (by decide) rfl rfl (by decide) tb_432 mi510 ms510 mn510 mc510 dX5_test_53)
  (zc_so (si_istore_n F dX5_test_56 rfl)
  (zc_so (si_iload_n F dX5_test_57 rfl)
  (zc_so (si_ifge F dX5_test_58 rfl)
  (zc_so (si_iconst F dX5_test_61 rfl)
  (zc_so (si_rI F hQ hn hz hlocks hr (fun x h => by rcases h with rfl | rfl <;> rfl) dX5_test_62)
  (zc_so (si_aload_n F dX5_test_63 rfl)
  (zc_nil))))))))))))))))))))))))))))))))))))))
theorem sd509_1 (F : zFx p l R s m args meth c D cid kv N0 xs Ls RX5 cX5_test 4 n0 z0 nF zE d) (IH : zAllM l D cid kv N0 xs Ls d) (hQ : ∀ v h, Qq v h → v = r0 ∧ h = hF) (hn : nF = zN hF) (hz : zE = zZ hF) (hlocks : meth.locks = false) (hr : meth.sig.returnType = (some .boolean)) : zSoL p l e R s m args below meth c D cid kv N0 xs Ls 4 (MQ below (zQc D cid kv N0 xs Ls ρ0 r0 hF) args s (nF - n0) (zE - z0) (zA N0)) ρ0 n0 z0 nF zE Qq (zCall d) zt509_1 := zc_so (si_getR (k := 1) F rfl inT5 (by decide) (by decide) rfl rfl tb_158 dX5_test_64)
  (zc_so (si_iload_n F dX5_test_67 rfl)
  (zc_so (si_iload_n F dX5_test_68 rfl)
  (zc_so (si_iload_n F dX5_test_69 rfl)
  (zc_so (si_cV F (IH 403 mm403) mp403 (by decide) rfl rfl (by decide) tb_456 mi403 ms403 mn403 mc403 dX5_test_70)
  (zc_so (si_iconst F dX5_test_73 rfl)
  (zc_so (si_rI F hQ hn hz hlocks hr (fun x h => by rcases h with rfl | rfl <;> rfl) dX5_test_74)
  (zc_nil)))))))
theorem sd509 (F : zFx p l R s m args meth c D cid kv N0 xs Ls RX5 cX5_test 4 n0 z0 nF zE d) (IH : zAllM l D cid kv N0 xs Ls d) (hQ : ∀ v h, Qq v h → v = r0 ∧ h = hF) (hn : nF = zN hF) (hz : zE = zZ hF) (hlocks : meth.locks = false) (hr : meth.sig.returnType = (some .boolean)) (pc : Nat) : zSo p l e R s m args below meth c D cid kv N0 xs Ls 4 (MQ below (zQc D cid kv N0 xs Ls ρ0 r0 hF) args s (nF - n0) (zE - z0) (zA N0)) ρ0 n0 z0 nF zE Qq (zCall d) pc (zTab 509 pc) := zc_tab [zt509_0, zt509_1] (zc_cons (sd509_0 F IH hQ hn hz hlocks hr) (zc_cons (sd509_1 F IH hQ hn hz hlocks hr) zc_end))
theorem dX5_number_0 : decode cX5_number 0 = .ok (.iconst (-1), 1) := by decide +kernel
theorem dX5_number_1 : decode cX5_number 1 = .ok (.istore_n 1, 1) := by decide +kernel
theorem dX5_number_2 : decode cX5_number 2 = .ok (.iconst 0, 1) := by decide +kernel
theorem dX5_number_3 : decode cX5_number 3 = .ok (.istore_n 2, 1) := by decide +kernel
theorem dX5_number_4 : decode cX5_number 4 = .ok (.iload_n 2, 1) := by decide +kernel
theorem dX5_number_5 : decode cX5_number 5 = .ok (.iconst 2, 1) := by decide +kernel
theorem dX5_number_6 : decode cX5_number 6 = .ok (.if_icmp .ge 52, 3) := by decide +kernel
theorem dX5_number_9 : decode cX5_number 9 = .ok (.aload_n 0, 1) := by decide +kernel
theorem dX5_number_10 : decode cX5_number 10 = .ok (.invokevirtual 40, 3) := by decide +kernel
theorem dX5_number_13 : decode cX5_number 13 = .ok (.istore_n 3, 1) := by decide +kernel
theorem dX5_number_14 : decode cX5_number 14 = .ok (.iload_n 3, 1) := by decide +kernel
theorem dX5_number_15 : decode cX5_number 15 = .ok (.bipush 48, 2) := by decide +kernel
theorem dX5_number_17 : decode cX5_number 17 = .ok (.if_icmp .lt 9, 3) := by decide +kernel
theorem dX5_number_20 : decode cX5_number 20 = .ok (.iload_n 3, 1) := by decide +kernel
theorem dX5_number_21 : decode cX5_number 21 = .ok (.bipush 57, 2) := by decide +kernel
theorem dX5_number_23 : decode cX5_number 23 = .ok (.if_icmp .le 5, 3) := by decide +kernel
theorem dX5_number_26 : decode cX5_number 26 = .ok (.iload_n 1, 1) := by decide +kernel
theorem dX5_number_27 : decode cX5_number 27 = .ok (.ireturn, 1) := by decide +kernel
theorem dX5_number_28 : decode cX5_number 28 = .ok (.iload_n 1, 1) := by decide +kernel
theorem dX5_number_29 : decode cX5_number 29 = .ok (.iconst 0, 1) := by decide +kernel
theorem dX5_number_30 : decode cX5_number 30 = .ok (.invokestatic 85, 3) := by decide +kernel
theorem dX5_number_33 : decode cX5_number 33 = .ok (.bipush 10, 2) := by decide +kernel
theorem dX5_number_35 : decode cX5_number 35 = .ok (.imul, 1) := by decide +kernel
theorem dX5_number_36 : decode cX5_number 36 = .ok (.iload_n 3, 1) := by decide +kernel
theorem dX5_number_37 : decode cX5_number 37 = .ok (.iadd, 1) := by decide +kernel
theorem dX5_number_38 : decode cX5_number 38 = .ok (.bipush 48, 2) := by decide +kernel
theorem dX5_number_40 : decode cX5_number 40 = .ok (.isub, 1) := by decide +kernel
theorem dX5_number_41 : decode cX5_number 41 = .ok (.istore_n 1, 1) := by decide +kernel
theorem dX5_number_42 : decode cX5_number 42 = .ok (.aload_n 0, 1) := by decide +kernel
theorem dX5_number_43 : decode cX5_number 43 = .ok (.dup, 1) := by decide +kernel
theorem dX5_number_44 : decode cX5_number 44 = .ok (.getfield 29, 3) := by decide +kernel
theorem dX5_number_47 : decode cX5_number 47 = .ok (.iconst 1, 1) := by decide +kernel
theorem dX5_number_48 : decode cX5_number 48 = .ok (.iadd, 1) := by decide +kernel
theorem dX5_number_49 : decode cX5_number 49 = .ok (.putfield 29, 3) := by decide +kernel
theorem dX5_number_52 : decode cX5_number 52 = .ok (.iinc 2 1, 3) := by decide +kernel
theorem dX5_number_55 : decode cX5_number 55 = .ok (.goto (-51), 3) := by decide +kernel
theorem dX5_number_58 : decode cX5_number 58 = .ok (.iload_n 1, 1) := by decide +kernel
theorem dX5_number_59 : decode cX5_number 59 = .ok (.ireturn, 1) := by decide +kernel
theorem sd510_0 (F : zFx p l R s m args meth c D cid kv N0 xs Ls RX5 cX5_number 4 n0 z0 nF zE d) (IH : zAllM l D cid kv N0 xs Ls d) (hQ : ∀ v h, Qq v h → v = r0 ∧ h = hF) (hn : nF = zN hF) (hz : zE = zZ hF) (hlocks : meth.locks = false) (hr : meth.sig.returnType = (some .int)) : zSoL p l e R s m args below meth c D cid kv N0 xs Ls 4 (MQ below (zQc D cid kv N0 xs Ls ρ0 r0 hF) args s (nF - n0) (zE - z0) (zA N0)) ρ0 n0 z0 nF zE Qq (zCall d) zt510_0 := zc_so (si_iconst F dX5_number_0 rfl)
  (zc_so (si_istore_n F dX5_number_1 rfl)
  (zc_so (si_iconst F dX5_number_2 rfl)
  (zc_so (si_istore_n F dX5_number_3 rfl)
  (zc_so (si_iload_n F dX5_number_4 rfl)
  (zc_so (si_iconst F dX5_number_5 rfl)
  (zc_so (si_icge F dX5_number_6 rfl)
  (zc_so (si_aload_n F dX5_number_9 rfl)
  (zc_so (si_cV F (IH 513 mm513) mp513 (by decide) rfl rfl (by decide) tb_367 mi513 ms513 mn513 mc513 dX5_number_10)
  (zc_so (si_istore_n F dX5_number_13 rfl)
  (zc_so (si_iload_n F dX5_number_14 rfl)
  (zc_so (si_bipush F dX5_number_15 rfl)
  (zc_so (si_iclt F dX5_number_17 rfl)
  (zc_so (si_iload_n F dX5_number_20 rfl)
  (zc_so (si_bipush F dX5_number_21 rfl)
  (zc_so (si_icle F dX5_number_23 rfl)
  (zc_so (si_iload_n F dX5_number_26 rfl)
  (zc_so (si_rI F hQ hn hz hlocks hr (fun _ _ => rfl) dX5_number_27)
  (zc_so (si_iload_n F dX5_number_28 rfl)
  (zc_so (si_iconst F dX5_number_29 rfl)
  (zc_so (si_max F tb_436 tb_97 tb_5 tb_98 dX5_number_30)
  (zc_so (si_bipush F dX5_number_33 rfl)
  (zc_so (si_imul F dX5_number_35)
  (zc_so (si_iload_n F dX5_number_36 rfl)
  (zc_so (si_iadd F dX5_number_37)
  (zc_so (si_bipush F dX5_number_38 rfl)
  (zc_so (si_isub F dX5_number_40)
  (zc_so (si_istore_n F dX5_number_41 rfl)
  (zc_so (si_aload_n F dX5_number_42 rfl)
  (zc_so (si_dup F dX5_number_43)
  (zc_so (si_getI (k := 2) F rfl inT5 (by decide) (by decide) rfl rfl tb_159 dX5_number_44)
  (zc_so (si_iconst F dX5_number_47 rfl)
  (zc_so (si_iadd F dX5_number_48)
  (zc_so (si_putI (k := 2) F rfl inT5 (by decide) (by decide) rfl rfl rfl rfl tyX5_ok nmX5 tb_159 dX5_number_49)
  (zc_so (si_iinc F dX5_number_52 rfl)
  (zc_so (si_goto F dX5_number_55 rfl)
  (zc_so (si_iload_n F dX5_number_58 rfl)
  (zc_so (si_rI F hQ hn hz hlocks hr (fun _ _ => rfl) dX5_number_59)
  (zc_nil))))))))))))))))))))))))))))))))))))))
theorem sd510 (F : zFx p l R s m args meth c D cid kv N0 xs Ls RX5 cX5_number 4 n0 z0 nF zE d) (IH : zAllM l D cid kv N0 xs Ls d) (hQ : ∀ v h, Qq v h → v = r0 ∧ h = hF) (hn : nF = zN hF) (hz : zE = zZ hF) (hlocks : meth.locks = false) (hr : meth.sig.returnType = (some .int)) (pc : Nat) : zSo p l e R s m args below meth c D cid kv N0 xs Ls 4 (MQ below (zQc D cid kv N0 xs Ls ρ0 r0 hF) args s (nF - n0) (zE - z0) (zA N0)) ρ0 n0 z0 nF zE Qq (zCall d) pc (zTab 510 pc) := zc_tab [zt510_0] (zc_cons (sd510_0 F IH hQ hn hz hlocks hr) zc_end)
theorem dX5_word_0 : decode cX5_word 0 = .ok (.iconst 0, 1) := by decide +kernel
theorem dX5_word_1 : decode cX5_word 1 = .ok (.istore_n 2, 1) := by decide +kernel
theorem dX5_word_2 : decode cX5_word 2 = .ok (.iload_n 2, 1) := by decide +kernel
theorem dX5_word_3 : decode cX5_word 3 = .ok (.aload_n 1, 1) := by decide +kernel
theorem dX5_word_4 : decode cX5_word 4 = .ok (.invokevirtual 91, 3) := by decide +kernel
theorem dX5_word_7 : decode cX5_word 7 = .ok (.if_icmp .ge 23, 3) := by decide +kernel
theorem dX5_word_10 : decode cX5_word 10 = .ok (.aload_n 0, 1) := by decide +kernel
theorem dX5_word_11 : decode cX5_word 11 = .ok (.aload_n 1, 1) := by decide +kernel
theorem dX5_word_12 : decode cX5_word 12 = .ok (.iload_n 2, 1) := by decide +kernel
theorem dX5_word_13 : decode cX5_word 13 = .ok (.invokevirtual 95, 3) := by decide +kernel
theorem dX5_word_16 : decode cX5_word 16 = .ok (.invokevirtual 36, 3) := by decide +kernel
theorem dX5_word_19 : decode cX5_word 19 = .ok (.ifCond .ne 5, 3) := by decide +kernel
theorem dX5_word_22 : decode cX5_word 22 = .ok (.iconst 0, 1) := by decide +kernel
theorem dX5_word_23 : decode cX5_word 23 = .ok (.ireturn, 1) := by decide +kernel
theorem dX5_word_24 : decode cX5_word 24 = .ok (.iinc 2 1, 3) := by decide +kernel
theorem dX5_word_27 : decode cX5_word 27 = .ok (.goto (-25), 3) := by decide +kernel
theorem dX5_word_30 : decode cX5_word 30 = .ok (.iconst 1, 1) := by decide +kernel
theorem dX5_word_31 : decode cX5_word 31 = .ok (.ireturn, 1) := by decide +kernel
theorem sd511_0 (F : zFx p l R s m args meth c D cid kv N0 xs Ls RX5 cX5_word 3 n0 z0 nF zE d) (IH : zAllM l D cid kv N0 xs Ls d) (hQ : ∀ v h, Qq v h → v = r0 ∧ h = hF) (hn : nF = zN hF) (hz : zE = zZ hF) (hlocks : meth.locks = false) (hr : meth.sig.returnType = (some .boolean)) : zSoL p l e R s m args below meth c D cid kv N0 xs Ls 3 (MQ below (zQc D cid kv N0 xs Ls ρ0 r0 hF) args s (nF - n0) (zE - z0) (zA N0)) ρ0 n0 z0 nF zE Qq (zCall d) zt511_0 := zc_so (si_iconst F dX5_word_0 rfl)
  (zc_so (si_istore_n F dX5_word_1 rfl)
  (zc_so (si_iload_n F dX5_word_2 rfl)
  (zc_so (si_aload_n F dX5_word_3 rfl)
  (zc_so (si_cT F (IH 1001 mm1001) mp1001 (by decide) rfl tb_380 mi1001 ms1001 mn1001 mc1001 dX5_word_4)
  (zc_so (si_icge F dX5_word_7 rfl)
  (zc_so (si_aload_n F dX5_word_10 rfl)
  (zc_so (si_aload_n F dX5_word_11 rfl)
  (zc_so (si_iload_n F dX5_word_12 rfl)
  (zc_so (si_cT F (IH 1002 mm1002) mp1002 (by decide) rfl tb_390 mi1002 ms1002 mn1002 mc1002 dX5_word_13)
  (zc_so (si_cV F (IH 512 mm512) mp512 (by decide) rfl rfl (by decide) tb_428 mi512 ms512 mn512 mc512 dX5_word_16)
  (zc_so (si_ifne F dX5_word_19 rfl)
  (zc_so (si_iconst F dX5_word_22 rfl)
  (zc_so (si_rI F hQ hn hz hlocks hr (fun x h => by rcases h with rfl | rfl <;> rfl) dX5_word_23)
  (zc_so (si_iinc F dX5_word_24 rfl)
  (zc_so (si_goto F dX5_word_27 rfl)
  (zc_so (si_iconst F dX5_word_30 rfl)
  (zc_so (si_rI F hQ hn hz hlocks hr (fun x h => by rcases h with rfl | rfl <;> rfl) dX5_word_31)
  (zc_nil))))))))))))))))))
theorem sd511 (F : zFx p l R s m args meth c D cid kv N0 xs Ls RX5 cX5_word 3 n0 z0 nF zE d) (IH : zAllM l D cid kv N0 xs Ls d) (hQ : ∀ v h, Qq v h → v = r0 ∧ h = hF) (hn : nF = zN hF) (hz : zE = zZ hF) (hlocks : meth.locks = false) (hr : meth.sig.returnType = (some .boolean)) (pc : Nat) : zSo p l e R s m args below meth c D cid kv N0 xs Ls 3 (MQ below (zQc D cid kv N0 xs Ls ρ0 r0 hF) args s (nF - n0) (zE - z0) (zA N0)) ρ0 n0 z0 nF zE Qq (zCall d) pc (zTab 511 pc) := zc_tab [zt511_0] (zc_cons (sd511_0 F IH hQ hn hz hlocks hr) zc_end)
theorem dX5_passes_0 : decode cX5_passes 0 = .ok (.aload_n 0, 1) := by decide +kernel
theorem dX5_passes_1 : decode cX5_passes 1 = .ok (.invokevirtual 40, 3) := by decide +kernel
theorem dX5_passes_4 : decode cX5_passes 4 = .ok (.iload_n 1, 1) := by decide +kernel
theorem dX5_passes_5 : decode cX5_passes 5 = .ok (.if_icmp .eq 5, 3) := by decide +kernel
theorem dX5_passes_8 : decode cX5_passes 8 = .ok (.iconst 0, 1) := by decide +kernel
theorem dX5_passes_9 : decode cX5_passes 9 = .ok (.ireturn, 1) := by decide +kernel
theorem dX5_passes_10 : decode cX5_passes 10 = .ok (.aload_n 0, 1) := by decide +kernel
theorem dX5_passes_11 : decode cX5_passes 11 = .ok (.dup, 1) := by decide +kernel
theorem dX5_passes_12 : decode cX5_passes 12 = .ok (.getfield 29, 3) := by decide +kernel
theorem dX5_passes_15 : decode cX5_passes 15 = .ok (.iconst 1, 1) := by decide +kernel
theorem dX5_passes_16 : decode cX5_passes 16 = .ok (.iadd, 1) := by decide +kernel
theorem dX5_passes_17 : decode cX5_passes 17 = .ok (.putfield 29, 3) := by decide +kernel
theorem dX5_passes_20 : decode cX5_passes 20 = .ok (.iconst 1, 1) := by decide +kernel
theorem dX5_passes_21 : decode cX5_passes 21 = .ok (.ireturn, 1) := by decide +kernel
theorem sd512_0 (F : zFx p l R s m args meth c D cid kv N0 xs Ls RX5 cX5_passes 2 n0 z0 nF zE d) (IH : zAllM l D cid kv N0 xs Ls d) (hQ : ∀ v h, Qq v h → v = r0 ∧ h = hF) (hn : nF = zN hF) (hz : zE = zZ hF) (hlocks : meth.locks = false) (hr : meth.sig.returnType = (some .boolean)) : zSoL p l e R s m args below meth c D cid kv N0 xs Ls 2 (MQ below (zQc D cid kv N0 xs Ls ρ0 r0 hF) args s (nF - n0) (zE - z0) (zA N0)) ρ0 n0 z0 nF zE Qq (zCall d) zt512_0 := zc_so (si_aload_n F dX5_passes_0 rfl)
  (zc_so (si_cV F (IH 513 mm513) mp513 (by decide) rfl rfl (by decide) tb_367 mi513 ms513 mn513 mc513 dX5_passes_1)
  (zc_so (si_iload_n F dX5_passes_4 rfl)
  (zc_so (si_iceq F dX5_passes_5 rfl)
  (zc_so (si_iconst F dX5_passes_8 rfl)
  (zc_so (si_rI F hQ hn hz hlocks hr (fun x h => by rcases h with rfl | rfl <;> rfl) dX5_passes_9)
  (zc_so (si_aload_n F dX5_passes_10 rfl)
  (zc_so (si_dup F dX5_passes_11)
  (zc_so (si_getI (k := 2) F rfl inT5 (by decide) (by decide) rfl rfl tb_159 dX5_passes_12)
  (zc_so (si_iconst F dX5_passes_15 rfl)
  (zc_so (si_iadd F dX5_passes_16)
  (zc_so (si_putI (k := 2) F rfl inT5 (by decide) (by decide) rfl rfl rfl rfl tyX5_ok nmX5 tb_159 dX5_passes_17)
  (zc_so (si_iconst F dX5_passes_20 rfl)
  (zc_so (si_rI F hQ hn hz hlocks hr (fun x h => by rcases h with rfl | rfl <;> rfl) dX5_passes_21)
  (zc_nil))))))))))))))
theorem sd512 (F : zFx p l R s m args meth c D cid kv N0 xs Ls RX5 cX5_passes 2 n0 z0 nF zE d) (IH : zAllM l D cid kv N0 xs Ls d) (hQ : ∀ v h, Qq v h → v = r0 ∧ h = hF) (hn : nF = zN hF) (hz : zE = zZ hF) (hlocks : meth.locks = false) (hr : meth.sig.returnType = (some .boolean)) (pc : Nat) : zSo p l e R s m args below meth c D cid kv N0 xs Ls 2 (MQ below (zQc D cid kv N0 xs Ls ρ0 r0 hF) args s (nF - n0) (zE - z0) (zA N0)) ρ0 n0 z0 nF zE Qq (zCall d) pc (zTab 512 pc) := zc_tab [zt512_0] (zc_cons (sd512_0 F IH hQ hn hz hlocks hr) zc_end)
theorem dX5_peek_0 : decode cX5_peek 0 = .ok (.aload_n 0, 1) := by decide +kernel
theorem dX5_peek_1 : decode cX5_peek 1 = .ok (.getfield 29, 3) := by decide +kernel
theorem dX5_peek_4 : decode cX5_peek 4 = .ok (.aload_n 0, 1) := by decide +kernel
theorem dX5_peek_5 : decode cX5_peek 5 = .ok (.getfield 22, 3) := by decide +kernel
theorem dX5_peek_8 : decode cX5_peek 8 = .ok (.if_icmp .ge 15, 3) := by decide +kernel
theorem dX5_peek_11 : decode cX5_peek 11 = .ok (.aload_n 0, 1) := by decide +kernel
theorem dX5_peek_12 : decode cX5_peek 12 = .ok (.getfield 9, 3) := by decide +kernel
theorem dX5_peek_15 : decode cX5_peek 15 = .ok (.aload_n 0, 1) := by decide +kernel
theorem dX5_peek_16 : decode cX5_peek 16 = .ok (.getfield 29, 3) := by decide +kernel
theorem dX5_peek_19 : decode cX5_peek 19 = .ok (.baload, 1) := by decide +kernel
theorem dX5_peek_20 : decode cX5_peek 20 = .ok (.goto 4, 3) := by decide +kernel
theorem dX5_peek_23 : decode cX5_peek 23 = .ok (.iconst (-1), 1) := by decide +kernel
theorem dX5_peek_24 : decode cX5_peek 24 = .ok (.ireturn, 1) := by decide +kernel
theorem sd513_0 (F : zFx p l R s m args meth c D cid kv N0 xs Ls RX5 cX5_peek 1 n0 z0 nF zE d) (IH : zAllM l D cid kv N0 xs Ls d) (hQ : ∀ v h, Qq v h → v = r0 ∧ h = hF) (hn : nF = zN hF) (hz : zE = zZ hF) (hlocks : meth.locks = false) (hr : meth.sig.returnType = (some .int)) : zSoL p l e R s m args below meth c D cid kv N0 xs Ls 1 (MQ below (zQc D cid kv N0 xs Ls ρ0 r0 hF) args s (nF - n0) (zE - z0) (zA N0)) ρ0 n0 z0 nF zE Qq (zCall d) zt513_0 := zc_so (si_aload_n F dX5_peek_0 rfl)
  (zc_so (si_getI (k := 2) F rfl inT5 (by decide) (by decide) rfl rfl tb_159 dX5_peek_1)
  (zc_so (si_aload_n F dX5_peek_4 rfl)
  (zc_so (si_getI (k := 3) F rfl inT5 (by decide) (by decide) rfl rfl tb_160 dX5_peek_5)
  (zc_so (si_icge F dX5_peek_8 rfl)
  (zc_so (si_aload_n F dX5_peek_11 rfl)
  (zc_so (si_getR (k := 0) F rfl inT5 (by decide) (by decide) rfl rfl tb_157 dX5_peek_12)
  (zc_so (si_aload_n F dX5_peek_15 rfl)
  (zc_so (si_getI (k := 2) F rfl inT5 (by decide) (by decide) rfl rfl tb_159 dX5_peek_16)
  (zc_so (si_baloadB F dX5_peek_19)
  (zc_so (si_goto F dX5_peek_20 rfl)
  (zc_so (si_iconst F dX5_peek_23 rfl)
  (zc_so (si_rI F hQ hn hz hlocks hr (fun _ _ => rfl) dX5_peek_24)
  (zc_nil)))))))))))))
theorem sd513 (F : zFx p l R s m args meth c D cid kv N0 xs Ls RX5 cX5_peek 1 n0 z0 nF zE d) (IH : zAllM l D cid kv N0 xs Ls d) (hQ : ∀ v h, Qq v h → v = r0 ∧ h = hF) (hn : nF = zN hF) (hz : zE = zZ hF) (hlocks : meth.locks = false) (hr : meth.sig.returnType = (some .int)) (pc : Nat) : zSo p l e R s m args below meth c D cid kv N0 xs Ls 1 (MQ below (zQc D cid kv N0 xs Ls ρ0 r0 hF) args s (nF - n0) (zE - z0) (zA N0)) ρ0 n0 z0 nF zE Qq (zCall d) pc (zTab 513 pc) := zc_tab [zt513_0] (zc_cons (sd513_0 F IH hQ hn hz hlocks hr) zc_end)
theorem dX5_isOneOf_0 : decode cX5_isOneOf 0 = .ok (.iconst 0, 1) := by decide +kernel
theorem dX5_isOneOf_1 : decode cX5_isOneOf 1 = .ok (.istore_n 2, 1) := by decide +kernel
theorem dX5_isOneOf_2 : decode cX5_isOneOf 2 = .ok (.iload_n 2, 1) := by decide +kernel
theorem dX5_isOneOf_3 : decode cX5_isOneOf 3 = .ok (.aload_n 1, 1) := by decide +kernel
theorem dX5_isOneOf_4 : decode cX5_isOneOf 4 = .ok (.invokevirtual 91, 3) := by decide +kernel
theorem dX5_isOneOf_7 : decode cX5_isOneOf 7 = .ok (.if_icmp .ge 20, 3) := by decide +kernel
theorem dX5_isOneOf_10 : decode cX5_isOneOf 10 = .ok (.aload_n 1, 1) := by decide +kernel
theorem dX5_isOneOf_11 : decode cX5_isOneOf 11 = .ok (.iload_n 2, 1) := by decide +kernel
theorem dX5_isOneOf_12 : decode cX5_isOneOf 12 = .ok (.invokevirtual 95, 3) := by decide +kernel
theorem dX5_isOneOf_15 : decode cX5_isOneOf 15 = .ok (.iload_n 0, 1) := by decide +kernel
theorem dX5_isOneOf_16 : decode cX5_isOneOf 16 = .ok (.if_icmp .ne 5, 3) := by decide +kernel
theorem dX5_isOneOf_19 : decode cX5_isOneOf 19 = .ok (.iconst 1, 1) := by decide +kernel
theorem dX5_isOneOf_20 : decode cX5_isOneOf 20 = .ok (.ireturn, 1) := by decide +kernel
theorem dX5_isOneOf_21 : decode cX5_isOneOf 21 = .ok (.iinc 2 1, 3) := by decide +kernel
theorem dX5_isOneOf_24 : decode cX5_isOneOf 24 = .ok (.goto (-22), 3) := by decide +kernel
theorem dX5_isOneOf_27 : decode cX5_isOneOf 27 = .ok (.iconst 0, 1) := by decide +kernel
theorem dX5_isOneOf_28 : decode cX5_isOneOf 28 = .ok (.ireturn, 1) := by decide +kernel
theorem sd514_0 (F : zFx p l R s m args meth c D cid kv N0 xs Ls RX5 cX5_isOneOf 3 n0 z0 nF zE d) (IH : zAllM l D cid kv N0 xs Ls d) (hQ : ∀ v h, Qq v h → v = r0 ∧ h = hF) (hn : nF = zN hF) (hz : zE = zZ hF) (hlocks : meth.locks = false) (hr : meth.sig.returnType = (some .boolean)) : zSoL p l e R s m args below meth c D cid kv N0 xs Ls 3 (MQ below (zQc D cid kv N0 xs Ls ρ0 r0 hF) args s (nF - n0) (zE - z0) (zA N0)) ρ0 n0 z0 nF zE Qq (zCall d) zt514_0 := zc_so (si_iconst F dX5_isOneOf_0 rfl)
  (zc_so (si_istore_n F dX5_isOneOf_1 rfl)
  (zc_so (si_iload_n F dX5_isOneOf_2 rfl)
  (zc_so (si_aload_n F dX5_isOneOf_3 rfl)
  (zc_so (si_cT F (IH 1001 mm1001) mp1001 (by decide) rfl tb_380 mi1001 ms1001 mn1001 mc1001 dX5_isOneOf_4)
  (zc_so (si_icge F dX5_isOneOf_7 rfl)
  (zc_so (si_aload_n F dX5_isOneOf_10 rfl)
  (zc_so (si_iload_n F dX5_isOneOf_11 rfl)
  (zc_so (si_cT F (IH 1002 mm1002) mp1002 (by decide) rfl tb_390 mi1002 ms1002 mn1002 mc1002 dX5_isOneOf_12)
  (zc_so (si_iload_n F dX5_isOneOf_15 rfl)
  (zc_so (si_icne F dX5_isOneOf_16 rfl)
  (zc_so (si_iconst F dX5_isOneOf_19 rfl)
  (zc_so (si_rI F hQ hn hz hlocks hr (fun x h => by rcases h with rfl | rfl <;> rfl) dX5_isOneOf_20)
  (zc_so (si_iinc F dX5_isOneOf_21 rfl)
  (zc_so (si_goto F dX5_isOneOf_24 rfl)
  (zc_so (si_iconst F dX5_isOneOf_27 rfl)
  (zc_so (si_rI F hQ hn hz hlocks hr (fun x h => by rcases h with rfl | rfl <;> rfl) dX5_isOneOf_28)
  (zc_nil)))))))))))))))))
theorem sd514 (F : zFx p l R s m args meth c D cid kv N0 xs Ls RX5 cX5_isOneOf 3 n0 z0 nF zE d) (IH : zAllM l D cid kv N0 xs Ls d) (hQ : ∀ v h, Qq v h → v = r0 ∧ h = hF) (hn : nF = zN hF) (hz : zE = zZ hF) (hlocks : meth.locks = false) (hr : meth.sig.returnType = (some .boolean)) (pc : Nat) : zSo p l e R s m args below meth c D cid kv N0 xs Ls 3 (MQ below (zQc D cid kv N0 xs Ls ρ0 r0 hF) args s (nF - n0) (zE - z0) (zA N0)) ρ0 n0 z0 nF zE Qq (zCall d) pc (zTab 514 pc) := zc_tab [zt514_0] (zc_cons (sd514_0 F IH hQ hn hz hlocks hr) zc_end)
theorem dX7_init_0 : decode cX7_init 0 = .ok (.aload_n 0, 1) := by decide +kernel
theorem dX7_init_1 : decode cX7_init 1 = .ok (.invokespecial 3, 3) := by decide +kernel
theorem dX7_init_4 : decode cX7_init 4 = .ok (.aload_n 0, 1) := by decide +kernel
theorem dX7_init_5 : decode cX7_init 5 = .ok (.new 9, 3) := by decide +kernel
theorem dX7_init_8 : decode cX7_init 8 = .ok (.dup, 1) := by decide +kernel
theorem dX7_init_9 : decode cX7_init 9 = .ok (.invokespecial 11, 3) := by decide +kernel
theorem dX7_init_12 : decode cX7_init 12 = .ok (.putfield 12, 3) := by decide +kernel
theorem dX7_init_15 : decode cX7_init 15 = .ok (.aload_n 0, 1) := by decide +kernel
theorem dX7_init_16 : decode cX7_init 16 = .ok (.new 9, 3) := by decide +kernel
theorem dX7_init_19 : decode cX7_init 19 = .ok (.dup, 1) := by decide +kernel
theorem dX7_init_20 : decode cX7_init 20 = .ok (.invokespecial 11, 3) := by decide +kernel
theorem dX7_init_23 : decode cX7_init 23 = .ok (.putfield 18, 3) := by decide +kernel
theorem dX7_init_26 : decode cX7_init 26 = .ok (.aload_n 0, 1) := by decide +kernel
theorem dX7_init_27 : decode cX7_init 27 = .ok (.new 9, 3) := by decide +kernel
theorem dX7_init_30 : decode cX7_init 30 = .ok (.dup, 1) := by decide +kernel
theorem dX7_init_31 : decode cX7_init 31 = .ok (.invokespecial 11, 3) := by decide +kernel
theorem dX7_init_34 : decode cX7_init 34 = .ok (.putfield 21, 3) := by decide +kernel
theorem dX7_init_37 : decode cX7_init 37 = .ok (.aload_n 0, 1) := by decide +kernel
theorem dX7_init_38 : decode cX7_init 38 = .ok (.new 24, 3) := by decide +kernel
theorem dX7_init_41 : decode cX7_init 41 = .ok (.dup, 1) := by decide +kernel
theorem dX7_init_42 : decode cX7_init 42 = .ok (.invokespecial 26, 3) := by decide +kernel
theorem dX7_init_45 : decode cX7_init 45 = .ok (.putfield 27, 3) := by decide +kernel
theorem dX7_init_48 : decode cX7_init 48 = .ok (.aload_n 0, 1) := by decide +kernel
theorem dX7_init_49 : decode cX7_init 49 = .ok (.new 24, 3) := by decide +kernel
theorem dX7_init_52 : decode cX7_init 52 = .ok (.dup, 1) := by decide +kernel
theorem dX7_init_53 : decode cX7_init 53 = .ok (.invokespecial 26, 3) := by decide +kernel
theorem dX7_init_56 : decode cX7_init 56 = .ok (.putfield 31, 3) := by decide +kernel
theorem dX7_init_59 : decode cX7_init 59 = .ok (.aload_n 0, 1) := by decide +kernel
theorem dX7_init_60 : decode cX7_init 60 = .ok (.new 34, 3) := by decide +kernel
theorem dX7_init_63 : decode cX7_init 63 = .ok (.dup, 1) := by decide +kernel
theorem dX7_init_64 : decode cX7_init 64 = .ok (.invokespecial 36, 3) := by decide +kernel
theorem dX7_init_67 : decode cX7_init 67 = .ok (.putfield 37, 3) := by decide +kernel
theorem dX7_init_70 : decode cX7_init 70 = .ok (.aload_n 0, 1) := by decide +kernel
theorem dX7_init_71 : decode cX7_init 71 = .ok (.new 41, 3) := by decide +kernel
theorem dX7_init_74 : decode cX7_init 74 = .ok (.dup, 1) := by decide +kernel
theorem dX7_init_75 : decode cX7_init 75 = .ok (.invokespecial 43, 3) := by decide +kernel
theorem dX7_init_78 : decode cX7_init 78 = .ok (.putfield 44, 3) := by decide +kernel
theorem dX7_init_81 : decode cX7_init 81 = .ok (.aload_n 0, 1) := by decide +kernel
theorem dX7_init_82 : decode cX7_init 82 = .ok (.bipush 6, 2) := by decide +kernel
theorem dX7_init_84 : decode cX7_init 84 = .ok (.anewarray 48, 3) := by decide +kernel
theorem dX7_init_87 : decode cX7_init 87 = .ok (.putfield 50, 3) := by decide +kernel
theorem dX7_init_90 : decode cX7_init 90 = .ok (.iconst 0, 1) := by decide +kernel
theorem dX7_init_91 : decode cX7_init 91 = .ok (.istore_n 1, 1) := by decide +kernel
theorem dX7_init_92 : decode cX7_init 92 = .ok (.iload_n 1, 1) := by decide +kernel
theorem dX7_init_93 : decode cX7_init 93 = .ok (.bipush 6, 2) := by decide +kernel
theorem dX7_init_95 : decode cX7_init 95 = .ok (.if_icmp .ge 22, 3) := by decide +kernel
theorem dX7_init_98 : decode cX7_init 98 = .ok (.aload_n 0, 1) := by decide +kernel
theorem dX7_init_99 : decode cX7_init 99 = .ok (.getfield 50, 3) := by decide +kernel
theorem dX7_init_102 : decode cX7_init 102 = .ok (.iload_n 1, 1) := by decide +kernel
theorem dX7_init_103 : decode cX7_init 103 = .ok (.new 48, 3) := by decide +kernel
theorem dX7_init_106 : decode cX7_init 106 = .ok (.dup, 1) := by decide +kernel
theorem dX7_init_107 : decode cX7_init 107 = .ok (.invokespecial 54, 3) := by decide +kernel
theorem dX7_init_110 : decode cX7_init 110 = .ok (.aastore, 1) := by decide +kernel
theorem dX7_init_111 : decode cX7_init 111 = .ok (.iinc 1 1, 3) := by decide +kernel
theorem dX7_init_114 : decode cX7_init 114 = .ok (.goto (-22), 3) := by decide +kernel
theorem dX7_init_117 : decode cX7_init 117 = .ok (.return_, 1) := by decide +kernel
theorem sd701_0 (F : zFx p l R s m args meth c D cid kv N0 xs Ls RX7 cX7_init 2 n0 z0 nF zE d) (IH : zAllM l D cid kv N0 xs Ls d) (hQ : ∀ v h, Qq v h → v = r0 ∧ h = hF) (hn : nF = zN hF) (hz : zE = zZ hF) (hlocks : meth.locks = false) (hr : meth.sig.returnType = none) (hin : meth.name = "<init>") : zSoL p l e R s m args below meth c D cid kv N0 xs Ls 2 (MQ below (zQc D cid kv N0 xs Ls ρ0 r0 hF) args s (nF - n0) (zE - z0) (zA N0)) ρ0 n0 z0 nF zE Qq (zCall d) zt701_0 := zc_so (si_aload_n F dX7_init_0 rfl)
  (zc_so (si_oinit F tb_22 tb_23 tb_24 dX7_init_1)
  (zc_so (si_aload_n F dX7_init_4 rfl)
  (zc_so (si_new F rfl inT2 (by decide) tyX2_ok nwX2 tb_25 tb_26 tb_2 dX7_init_5)
  (zc_so (si_dup F dX7_init_8)
  (zc_so (si_cIN (host := "TurnBack") F (IH 201 mm201) mp201 (by decide) rfl (by decide +kernel) mi201 mn201 mc201 dX7_init_9)
  (zc_so (si_putRF (k := 0) F rfl inT7 (by decide) (by decide) rfl rfl rfl (fun o => by cases o <;> exact ⟨rfl, rfl⟩) rfl hin rfl tyX7_ok nmX7 tb_216 dX7_init_12)
  (zc_so (si_aload_n F dX7_init_15 rfl)
  (zc_so (si_new F rfl inT2 (by decide) tyX2_ok nwX2 tb_25 tb_26 tb_2 dX7_init_16)
  (zc_so (si_dup F dX7_init_19)
  (zc_so (si_cIN (host := "TurnBack") F (IH 201 mm201) mp201 (by decide) rfl (by decide +kernel) mi201 mn201 mc201 dX7_init_20)
  (zc_so (si_putRF (k := 1) F rfl inT7 (by decide) (by decide) rfl rfl rfl (fun o => by cases o <;> exact ⟨rfl, rfl⟩) rfl hin rfl tyX7_ok nmX7 tb_217 dX7_init_23)
  (zc_so (si_aload_n F dX7_init_26 rfl)
  (zc_so (si_new F rfl inT2 (by decide) tyX2_ok nwX2 tb_25 tb_26 tb_2 dX7_init_27)
  (zc_so (si_dup F dX7_init_30)
  (zc_so (si_cIN (host := "TurnBack") F (IH 201 mm201) mp201 (by decide) rfl (by decide +kernel) mi201 mn201 mc201 dX7_init_31)
  (zc_so (si_putRF (k := 2) F rfl inT7 (by decide) (by decide) rfl rfl rfl (fun o => by cases o <;> exact ⟨rfl, rfl⟩) rfl hin rfl tyX7_ok nmX7 tb_218 dX7_init_34)
  (zc_so (si_aload_n F dX7_init_37 rfl)
  (zc_so (si_new F rfl inT1 (by decide) tyX1_ok nwX1 tb_84 tb_85 tb_3 dX7_init_38)
  (zc_so (si_dup F dX7_init_41)
  (zc_so (si_cIN (host := "TurnBack") F (IH 101 mm101) mp101 (by decide) rfl (by decide +kernel) mi101 mn101 mc101 dX7_init_42)
  (zc_so (si_putRF (k := 3) F rfl inT7 (by decide) (by decide) rfl rfl rfl (fun o => by cases o <;> exact ⟨rfl, rfl⟩) rfl hin rfl tyX7_ok nmX7 tb_219 dX7_init_45)
  (zc_so (si_aload_n F dX7_init_48 rfl)
  (zc_so (si_new F rfl inT1 (by decide) tyX1_ok nwX1 tb_84 tb_85 tb_3 dX7_init_49)
  (zc_so (si_dup F dX7_init_52)
  (zc_so (si_cIN (host := "TurnBack") F (IH 101 mm101) mp101 (by decide) rfl (by decide +kernel) mi101 mn101 mc101 dX7_init_53)
  (zc_so (si_putRF (k := 4) F rfl inT7 (by decide) (by decide) rfl rfl rfl (fun o => by cases o <;> exact ⟨rfl, rfl⟩) rfl hin rfl tyX7_ok nmX7 tb_220 dX7_init_56)
  (zc_so (si_aload_n F dX7_init_59 rfl)
  (zc_so (si_new F rfl inT5 (by decide) tyX5_ok nwX5 tb_132 tb_133 tb_6 dX7_init_60)
  (zc_so (si_dup F dX7_init_63)
  (zc_nil))))))))))))))))))))))))))))))
theorem sd701_1 (F : zFx p l R s m args meth c D cid kv N0 xs Ls RX7 cX7_init 2 n0 z0 nF zE d) (IH : zAllM l D cid kv N0 xs Ls d) (hQ : ∀ v h, Qq v h → v = r0 ∧ h = hF) (hn : nF = zN hF) (hz : zE = zZ hF) (hlocks : meth.locks = false) (hr : meth.sig.returnType = none) (hin : meth.name = "<init>") : zSoL p l e R s m args below meth c D cid kv N0 xs Ls 2 (MQ below (zQc D cid kv N0 xs Ls ρ0 r0 hF) args s (nF - n0) (zE - z0) (zA N0)) ρ0 n0 z0 nF zE Qq (zCall d) zt701_1 := zc_so (si_cIN (host := "TurnBack") F (IH 501 mm501) mp501 (by decide) rfl (by decide +kernel) mi501 mn501 mc501 dX7_init_64)
  (zc_so (si_putRF (k := 6) F rfl inT7 (by decide) (by decide) rfl rfl rfl (fun o => by cases o <;> exact ⟨rfl, rfl⟩) rfl hin rfl tyX7_ok nmX7 tb_222 dX7_init_67)
  (zc_so (si_aload_n F dX7_init_70 rfl)
  (zc_so (si_new F rfl inT0 (by decide) tyX0_ok nwX0 tb_171 tb_172 tb_8 dX7_init_71)
  (zc_so (si_dup F dX7_init_74)
  (zc_so (si_cIN (host := "TurnBack") F (IH 1 mm1) mp1 (by decide) rfl (by decide +kernel) mi1 mn1 mc1 dX7_init_75)
  (zc_so (si_putRF (k := 8) F rfl inT7 (by decide) (by decide) rfl rfl rfl (fun o => by cases o <;> exact ⟨rfl, rfl⟩) rfl hin rfl tyX7_ok nmX7 tb_224 dX7_init_78)
  (zc_so (si_aload_n F dX7_init_81 rfl)
  (zc_so (si_bipush F dX7_init_82 rfl)
  (zc_so (so_naT F.1 F.2.1 (F.1.2.2.2.2 _ tb_195) F.2.2.2.2.1 F.2.2.1 F.2.2.2.1 dX7_init_84)
  (zc_so (si_putRF (k := 9) F rfl inT7 (by decide) (by decide) rfl rfl rfl (fun o => by cases o <;> exact ⟨rfl, rfl⟩) rfl hin rfl tyX7_ok nmX7 tb_225 dX7_init_87)
  (zc_so (si_iconst F dX7_init_90 rfl)
  (zc_so (si_istore_n F dX7_init_91 rfl)
  (zc_so (si_iload_n F dX7_init_92 rfl)
  (zc_so (si_bipush F dX7_init_93 rfl)
  (zc_so (si_icge F dX7_init_95 rfl)
  (zc_so (si_aload_n F dX7_init_98 rfl)
  (zc_so (si_getR (k := 9) F rfl inT7 (by decide) (by decide) rfl rfl tb_225 dX7_init_99)
  (zc_so (si_iload_n F dX7_init_102 rfl)
  (zc_so (si_new F rfl inT6 (by decide) tyX6_ok nwX6 tb_195 tb_197 tb_9 dX7_init_103)
  (zc_so (si_dup F dX7_init_106)
  (zc_so (si_cIN (host := "TurnBack") F (IH 601 mm601) mp601 (by decide) rfl (by decide +kernel) mi601 mn601 mc601 dX7_init_107)
  (zc_so (si_aastore F dX7_init_110)
  (zc_so (si_iinc F dX7_init_111 rfl)
  (zc_so (si_goto F dX7_init_114 rfl)
  (zc_so (si_rV F hQ hn hz hlocks hr dX7_init_117)
  (zc_nil))))))))))))))))))))))))))
theorem sd701 (F : zFx p l R s m args meth c D cid kv N0 xs Ls RX7 cX7_init 2 n0 z0 nF zE d) (IH : zAllM l D cid kv N0 xs Ls d) (hQ : ∀ v h, Qq v h → v = r0 ∧ h = hF) (hn : nF = zN hF) (hz : zE = zZ hF) (hlocks : meth.locks = false) (hr : meth.sig.returnType = none) (hin : meth.name = "<init>") (pc : Nat) : zSo p l e R s m args below meth c D cid kv N0 xs Ls 2 (MQ below (zQc D cid kv N0 xs Ls ρ0 r0 hF) args s (nF - n0) (zE - z0) (zA N0)) ρ0 n0 z0 nF zE Qq (zCall d) pc (zTab 701 pc) := zc_tab [zt701_0, zt701_1] (zc_cons (sd701_0 F IH hQ hn hz hlocks hr hin) (zc_cons (sd701_1 F IH hQ hn hz hlocks hr hin) zc_end))
theorem dX7_traveller_0 : decode cX7_traveller 0 = .ok (.iload_n 1, 1) := by decide +kernel
theorem dX7_traveller_1 : decode cX7_traveller 1 = .ok (.bipush 6, 2) := by decide +kernel
theorem dX7_traveller_3 : decode cX7_traveller 3 = .ok (.invokestatic 55, 3) := by decide +kernel
theorem dX7_traveller_6 : decode cX7_traveller 6 = .ok (.ifCond .eq 13, 3) := by decide +kernel
theorem dX7_traveller_9 : decode cX7_traveller 9 = .ok (.iload 4, 2) := by decide +kernel
theorem dX7_traveller_11 : decode cX7_traveller 11 = .ok (.bipush 10, 2) := by decide +kernel
theorem dX7_traveller_13 : decode cX7_traveller 13 = .ok (.invokestatic 55, 3) := by decide +kernel
theorem dX7_traveller_16 : decode cX7_traveller 16 = .ok (.ifCond .ne 5, 3) := by decide +kernel
theorem dX7_traveller_19 : decode cX7_traveller 19 = .ok (.iconst (-1), 1) := by decide +kernel
theorem dX7_traveller_20 : decode cX7_traveller 20 = .ok (.ireturn, 1) := by decide +kernel
theorem dX7_traveller_21 : decode cX7_traveller 21 = .ok (.iload_n 2, 1) := by decide +kernel
theorem dX7_traveller_22 : decode cX7_traveller 22 = .ok (.bipush 9, 2) := by decide +kernel
theorem dX7_traveller_24 : decode cX7_traveller 24 = .ok (.invokestatic 55, 3) := by decide +kernel
theorem dX7_traveller_27 : decode cX7_traveller 27 = .ok (.ifCond .eq 12, 3) := by decide +kernel
theorem dX7_traveller_30 : decode cX7_traveller 30 = .ok (.iload_n 3, 1) := by decide +kernel
theorem dX7_traveller_31 : decode cX7_traveller 31 = .ok (.bipush 99, 2) := by decide +kernel
theorem dX7_traveller_33 : decode cX7_traveller 33 = .ok (.invokestatic 55, 3) := by decide +kernel
theorem dX7_traveller_36 : decode cX7_traveller 36 = .ok (.ifCond .ne 6, 3) := by decide +kernel
theorem dX7_traveller_39 : decode cX7_traveller 39 = .ok (.bipush (-2), 2) := by decide +kernel
theorem dX7_traveller_41 : decode cX7_traveller 41 = .ok (.ireturn, 1) := by decide +kernel
theorem dX7_traveller_42 : decode cX7_traveller 42 = .ok (.aload_n 0, 1) := by decide +kernel
theorem dX7_traveller_43 : decode cX7_traveller 43 = .ok (.getfield 12, 3) := by decide +kernel
theorem dX7_traveller_46 : decode cX7_traveller 46 = .ok (.iload_n 1, 1) := by decide +kernel
theorem dX7_traveller_47 : decode cX7_traveller 47 = .ok (.iload_n 2, 1) := by decide +kernel
theorem dX7_traveller_48 : decode cX7_traveller 48 = .ok (.iload_n 3, 1) := by decide +kernel
theorem dX7_traveller_49 : decode cX7_traveller 49 = .ok (.iload 4, 2) := by decide +kernel
theorem dX7_traveller_51 : decode cX7_traveller 51 = .ok (.invokevirtual 59, 3) := by decide +kernel
theorem dX7_traveller_54 : decode cX7_traveller 54 = .ok (.ireturn, 1) := by decide +kernel
theorem sd702_0 (F : zFx p l R s m args meth c D cid kv N0 xs Ls RX7 cX7_traveller 5 n0 z0 nF zE d) (IH : zAllM l D cid kv N0 xs Ls d) (hQ : ∀ v h, Qq v h → v = r0 ∧ h = hF) (hn : nF = zN hF) (hz : zE = zZ hF) (hlocks : meth.locks = false) (hr : meth.sig.returnType = (some .int)) : zSoL p l e R s m args below meth c D cid kv N0 xs Ls 5 (MQ below (zQc D cid kv N0 xs Ls ρ0 r0 hF) args s (nF - n0) (zE - z0) (zA N0)) ρ0 n0 z0 nF zE Qq (zCall d) zt702_0 := zc_so (si_iload_n F dX7_traveller_0 rfl)
  (zc_so (si_bipush F dX7_traveller_1 rfl)
  (zc_so (si_cS  F (IH 744 mm744) mp744 (by decide) tb_251 mi744 mn744 mc744 dX7_traveller_3)
  (zc_so (si_ifeq F dX7_traveller_6 rfl)
  (zc_so (si_iload F dX7_traveller_9)
  (zc_so (si_bipush F dX7_traveller_11 rfl)
  (zc_so (si_cS  F (IH 744 mm744) mp744 (by decide) tb_251 mi744 mn744 mc744 dX7_traveller_13)
  (zc_so (si_ifne F dX7_traveller_16 rfl)
  (zc_so (si_iconst F dX7_traveller_19 rfl)
  (zc_so (si_rI F hQ hn hz hlocks hr (fun _ _ => rfl) dX7_traveller_20)
  (zc_so (si_iload_n F dX7_traveller_21 rfl)
  (zc_so (si_bipush F dX7_traveller_22 rfl)
  (zc_so (si_cS  F (IH 744 mm744) mp744 (by decide) tb_251 mi744 mn744 mc744 dX7_traveller_24)
  (zc_so (si_ifeq F dX7_traveller_27 rfl)
  (zc_so (si_iload_n F dX7_traveller_30 rfl)
  (zc_so (si_bipush F dX7_traveller_31 rfl)
  (zc_so (si_cS  F (IH 744 mm744) mp744 (by decide) tb_251 mi744 mn744 mc744 dX7_traveller_33)
  (zc_so (si_ifne F dX7_traveller_36 rfl)
  (zc_so (si_bipush F dX7_traveller_39 rfl)
  (zc_so (si_rI F hQ hn hz hlocks hr (fun _ _ => rfl) dX7_traveller_41)
  (zc_so (si_aload_n F dX7_traveller_42 rfl)
  (zc_so (si_getR (k := 0) F rfl inT7 (by decide) (by decide) rfl rfl tb_216 dX7_traveller_43)
  (zc_so (si_iload_n F dX7_traveller_46 rfl)
  (zc_so (si_iload_n F dX7_traveller_47 rfl)
  (zc_so (si_iload_n F dX7_traveller_48 rfl)
  (zc_so (si_iload F dX7_traveller_49)
  (zc_so (si_cV F (IH 203 mm203) mp203 (by decide) rfl rfl (by decide) tb_254 mi203 ms203 mn203 mc203 dX7_traveller_51)
  (zc_so (si_rI F hQ hn hz hlocks hr (fun _ _ => rfl) dX7_traveller_54)
  (zc_nil))))))))))))))))))))))))))))
theorem sd702 (F : zFx p l R s m args meth c D cid kv N0 xs Ls RX7 cX7_traveller 5 n0 z0 nF zE d) (IH : zAllM l D cid kv N0 xs Ls d) (hQ : ∀ v h, Qq v h → v = r0 ∧ h = hF) (hn : nF = zN hF) (hz : zE = zZ hF) (hlocks : meth.locks = false) (hr : meth.sig.returnType = (some .int)) (pc : Nat) : zSo p l e R s m args below meth c D cid kv N0 xs Ls 5 (MQ below (zQc D cid kv N0 xs Ls ρ0 r0 hF) args s (nF - n0) (zE - z0) (zA N0)) ρ0 n0 z0 nF zE Qq (zCall d) pc (zTab 702 pc) := zc_tab [zt702_0] (zc_cons (sd702_0 F IH hQ hn hz hlocks hr) zc_end)
theorem dX7_of_0 : decode cX7_of 0 = .ok (.aload_n 0, 1) := by decide +kernel
theorem dX7_of_1 : decode cX7_of 1 = .ok (.iload_n 1, 1) := by decide +kernel
theorem dX7_of_2 : decode cX7_of 2 = .ok (.invokevirtual 63, 3) := by decide +kernel
theorem dX7_of_5 : decode cX7_of 5 = .ok (.ifCond .ne 7, 3) := by decide +kernel
theorem dX7_of_8 : decode cX7_of 8 = .ok (.sipush (-10001), 3) := by decide +kernel
theorem dX7_of_11 : decode cX7_of 11 = .ok (.ireturn, 1) := by decide +kernel
theorem dX7_of_12 : decode cX7_of 12 = .ok (.iload_n 2, 1) := by decide +kernel
theorem dX7_of_13 : decode cX7_of 13 = .ok (.tableswitch 130 0 7 #[47, 57, 67, 77, 87, 105, 115, 124], 47) := by decide +kernel
theorem dX7_of_60 : decode cX7_of 60 = .ok (.aload_n 0, 1) := by decide +kernel
theorem dX7_of_61 : decode cX7_of 61 = .ok (.getfield 12, 3) := by decide +kernel
theorem dX7_of_64 : decode cX7_of 64 = .ok (.getfield 67, 3) := by decide +kernel
theorem dX7_of_67 : decode cX7_of 67 = .ok (.iload_n 1, 1) := by decide +kernel
theorem dX7_of_68 : decode cX7_of 68 = .ok (.iaload, 1) := by decide +kernel
theorem dX7_of_69 : decode cX7_of 69 = .ok (.ireturn, 1) := by decide +kernel
theorem dX7_of_70 : decode cX7_of 70 = .ok (.aload_n 0, 1) := by decide +kernel
theorem dX7_of_71 : decode cX7_of 71 = .ok (.getfield 12, 3) := by decide +kernel
theorem dX7_of_74 : decode cX7_of 74 = .ok (.getfield 71, 3) := by decide +kernel
theorem dX7_of_77 : decode cX7_of 77 = .ok (.iload_n 1, 1) := by decide +kernel
theorem dX7_of_78 : decode cX7_of 78 = .ok (.iaload, 1) := by decide +kernel
theorem dX7_of_79 : decode cX7_of 79 = .ok (.ireturn, 1) := by decide +kernel
theorem dX7_of_80 : decode cX7_of 80 = .ok (.aload_n 0, 1) := by decide +kernel
theorem dX7_of_81 : decode cX7_of 81 = .ok (.getfield 12, 3) := by decide +kernel
theorem dX7_of_84 : decode cX7_of 84 = .ok (.getfield 74, 3) := by decide +kernel
theorem dX7_of_87 : decode cX7_of 87 = .ok (.iload_n 1, 1) := by decide +kernel
theorem dX7_of_88 : decode cX7_of 88 = .ok (.iaload, 1) := by decide +kernel
theorem dX7_of_89 : decode cX7_of 89 = .ok (.ireturn, 1) := by decide +kernel
theorem dX7_of_90 : decode cX7_of 90 = .ok (.aload_n 0, 1) := by decide +kernel
theorem dX7_of_91 : decode cX7_of 91 = .ok (.getfield 12, 3) := by decide +kernel
theorem dX7_of_94 : decode cX7_of 94 = .ok (.getfield 77, 3) := by decide +kernel
theorem dX7_of_97 : decode cX7_of 97 = .ok (.iload_n 1, 1) := by decide +kernel
theorem dX7_of_98 : decode cX7_of 98 = .ok (.iaload, 1) := by decide +kernel
theorem dX7_of_99 : decode cX7_of 99 = .ok (.ireturn, 1) := by decide +kernel
theorem dX7_of_100 : decode cX7_of 100 = .ok (.aload_n 0, 1) := by decide +kernel
theorem dX7_of_101 : decode cX7_of 101 = .ok (.getfield 12, 3) := by decide +kernel
theorem dX7_of_104 : decode cX7_of 104 = .ok (.getfield 80, 3) := by decide +kernel
theorem dX7_of_107 : decode cX7_of 107 = .ok (.iload_n 1, 1) := by decide +kernel
theorem dX7_of_108 : decode cX7_of 108 = .ok (.baload, 1) := by decide +kernel
theorem dX7_of_109 : decode cX7_of 109 = .ok (.ifCond .eq 7, 3) := by decide +kernel
theorem dX7_of_112 : decode cX7_of 112 = .ok (.iconst 1, 1) := by decide +kernel
theorem dX7_of_113 : decode cX7_of 113 = .ok (.goto 4, 3) := by decide +kernel
theorem dX7_of_116 : decode cX7_of 116 = .ok (.iconst 0, 1) := by decide +kernel
theorem dX7_of_117 : decode cX7_of 117 = .ok (.ireturn, 1) := by decide +kernel
theorem dX7_of_118 : decode cX7_of 118 = .ok (.aload_n 0, 1) := by decide +kernel
theorem dX7_of_119 : decode cX7_of 119 = .ok (.getfield 12, 3) := by decide +kernel
theorem dX7_of_122 : decode cX7_of 122 = .ok (.getfield 84, 3) := by decide +kernel
theorem dX7_of_125 : decode cX7_of 125 = .ok (.iload_n 1, 1) := by decide +kernel
theorem dX7_of_126 : decode cX7_of 126 = .ok (.iaload, 1) := by decide +kernel
theorem dX7_of_127 : decode cX7_of 127 = .ok (.ireturn, 1) := by decide +kernel
theorem dX7_of_128 : decode cX7_of 128 = .ok (.aload_n 0, 1) := by decide +kernel
theorem dX7_of_129 : decode cX7_of 129 = .ok (.getfield 12, 3) := by decide +kernel
theorem dX7_of_132 : decode cX7_of 132 = .ok (.iload_n 1, 1) := by decide +kernel
theorem dX7_of_133 : decode cX7_of 133 = .ok (.invokevirtual 87, 3) := by decide +kernel
theorem dX7_of_136 : decode cX7_of 136 = .ok (.ireturn, 1) := by decide +kernel
theorem dX7_of_137 : decode cX7_of 137 = .ok (.aload_n 0, 1) := by decide +kernel
theorem dX7_of_138 : decode cX7_of 138 = .ok (.iload_n 1, 1) := by decide +kernel
theorem dX7_of_139 : decode cX7_of 139 = .ok (.invokevirtual 91, 3) := by decide +kernel
theorem dX7_of_142 : decode cX7_of 142 = .ok (.ireturn, 1) := by decide +kernel
theorem dX7_of_143 : decode cX7_of 143 = .ok (.sipush (-10001), 3) := by decide +kernel
theorem dX7_of_146 : decode cX7_of 146 = .ok (.ireturn, 1) := by decide +kernel
theorem sd703_0 (F : zFx p l R s m args meth c D cid kv N0 xs Ls RX7 cX7_of 3 n0 z0 nF zE d) (IH : zAllM l D cid kv N0 xs Ls d) (hQ : ∀ v h, Qq v h → v = r0 ∧ h = hF) (hn : nF = zN hF) (hz : zE = zZ hF) (hlocks : meth.locks = false) (hr : meth.sig.returnType = (some .int)) : zSoL p l e R s m args below meth c D cid kv N0 xs Ls 3 (MQ below (zQc D cid kv N0 xs Ls ρ0 r0 hF) args s (nF - n0) (zE - z0) (zA N0)) ρ0 n0 z0 nF zE Qq (zCall d) zt703_0 := zc_so (si_aload_n F dX7_of_0 rfl)
  (zc_so (si_iload_n F dX7_of_1 rfl)
  (zc_so (si_cV F (IH 743 mm743) mp743 (by decide) rfl rfl (by decide) tb_266 mi743 ms743 mn743 mc743 dX7_of_2)
  (zc_so (si_ifne F dX7_of_5 rfl)
  (zc_so (si_sipush F dX7_of_8 rfl)
  (zc_so (si_rI F hQ hn hz hlocks hr (fun _ _ => rfl) dX7_of_11)
  (zc_so (si_iload_n F dX7_of_12 rfl)
  (zc_so (so_swT F.1.1 F.1.2.1 dX7_of_13 rfl rfl ⟨rfl, rfl, ⟨rfl, rfl, ⟨rfl, rfl, ⟨rfl, rfl, ⟨rfl, rfl, ⟨rfl, rfl, ⟨rfl, rfl, ⟨rfl, rfl, trivial⟩⟩⟩⟩⟩⟩⟩⟩)
  (zc_so (si_aload_n F dX7_of_60 rfl)
  (zc_so (si_getR (k := 0) F rfl inT7 (by decide) (by decide) rfl rfl tb_216 dX7_of_61)
  (zc_nil))))))))))
theorem sd703_1 (F : zFx p l R s m args meth c D cid kv N0 xs Ls RX7 cX7_of 3 n0 z0 nF zE d) (IH : zAllM l D cid kv N0 xs Ls d) (hQ : ∀ v h, Qq v h → v = r0 ∧ h = hF) (hn : nF = zN hF) (hz : zE = zZ hF) (hlocks : meth.locks = false) (hr : meth.sig.returnType = (some .int)) : zSoL p l e R s m args below meth c D cid kv N0 xs Ls 3 (MQ below (zQc D cid kv N0 xs Ls ρ0 r0 hF) args s (nF - n0) (zE - z0) (zA N0)) ρ0 n0 z0 nF zE Qq (zCall d) zt703_1 := zc_so (si_getR (k := 0) F rfl inT2 (by decide) (by decide) rfl rfl tb_34 dX7_of_64)
  (zc_so (si_iload_n F dX7_of_67 rfl)
  (zc_so (si_iaload F dX7_of_68)
  (zc_so (si_rI F hQ hn hz hlocks hr (fun _ _ => rfl) dX7_of_69)
  (zc_so (si_aload_n F dX7_of_70 rfl)
  (zc_so (si_getR (k := 0) F rfl inT7 (by decide) (by decide) rfl rfl tb_216 dX7_of_71)
  (zc_so (si_getR (k := 1) F rfl inT2 (by decide) (by decide) rfl rfl tb_36 dX7_of_74)
  (zc_so (si_iload_n F dX7_of_77 rfl)
  (zc_so (si_iaload F dX7_of_78)
  (zc_so (si_rI F hQ hn hz hlocks hr (fun _ _ => rfl) dX7_of_79)
  (zc_so (si_aload_n F dX7_of_80 rfl)
  (zc_so (si_getR (k := 0) F rfl inT7 (by decide) (by decide) rfl rfl tb_216 dX7_of_81)
  (zc_so (si_getR (k := 2) F rfl inT2 (by decide) (by decide) rfl rfl tb_38 dX7_of_84)
  (zc_so (si_iload_n F dX7_of_87 rfl)
  (zc_so (si_iaload F dX7_of_88)
  (zc_so (si_rI F hQ hn hz hlocks hr (fun _ _ => rfl) dX7_of_89)
  (zc_so (si_aload_n F dX7_of_90 rfl)
  (zc_so (si_getR (k := 0) F rfl inT7 (by decide) (by decide) rfl rfl tb_216 dX7_of_91)
  (zc_so (si_getR (k := 3) F rfl inT2 (by decide) (by decide) rfl rfl tb_40 dX7_of_94)
  (zc_so (si_iload_n F dX7_of_97 rfl)
  (zc_so (si_iaload F dX7_of_98)
  (zc_so (si_rI F hQ hn hz hlocks hr (fun _ _ => rfl) dX7_of_99)
  (zc_so (si_aload_n F dX7_of_100 rfl)
  (zc_so (si_getR (k := 0) F rfl inT7 (by decide) (by decide) rfl rfl tb_216 dX7_of_101)
  (zc_so (si_getR (k := 5) F rfl inT2 (by decide) (by decide) rfl rfl tb_44 dX7_of_104)
  (zc_so (si_iload_n F dX7_of_107 rfl)
  (zc_so (si_baloadZ F dX7_of_108)
  (zc_so (si_ifeq F dX7_of_109 rfl)
  (zc_so (si_iconst F dX7_of_112 rfl)
  (zc_so (si_goto F dX7_of_113 rfl)
  (zc_so (si_iconst F dX7_of_116 rfl)
  (zc_so (si_rI F hQ hn hz hlocks hr (fun _ _ => rfl) dX7_of_117)
  (zc_so (si_aload_n F dX7_of_118 rfl)
  (zc_so (si_getR (k := 0) F rfl inT7 (by decide) (by decide) rfl rfl tb_216 dX7_of_119)
  (zc_so (si_getR (k := 4) F rfl inT2 (by decide) (by decide) rfl rfl tb_42 dX7_of_122)
  (zc_so (si_iload_n F dX7_of_125 rfl)
  (zc_so (si_iaload F dX7_of_126)
  (zc_so (si_rI F hQ hn hz hlocks hr (fun _ _ => rfl) dX7_of_127)
  (zc_nil))))))))))))))))))))))))))))))))))))))
theorem sd703_2 (F : zFx p l R s m args meth c D cid kv N0 xs Ls RX7 cX7_of 3 n0 z0 nF zE d) (IH : zAllM l D cid kv N0 xs Ls d) (hQ : ∀ v h, Qq v h → v = r0 ∧ h = hF) (hn : nF = zN hF) (hz : zE = zZ hF) (hlocks : meth.locks = false) (hr : meth.sig.returnType = (some .int)) : zSoL p l e R s m args below meth c D cid kv N0 xs Ls 3 (MQ below (zQc D cid kv N0 xs Ls ρ0 r0 hF) args s (nF - n0) (zE - z0) (zA N0)) ρ0 n0 z0 nF zE Qq (zCall d) zt703_2 := zc_so (si_aload_n F dX7_of_128 rfl)
  (zc_so (si_getR (k := 0) F rfl inT7 (by decide) (by decide) rfl rfl tb_216 dX7_of_129)
  (zc_so (si_iload_n F dX7_of_132 rfl)
  (zc_so (si_cV F (IH 212 mm212) mp212 (by decide) rfl rfl (by decide) tb_270 mi212 ms212 mn212 mc212 dX7_of_133)
  (zc_so (si_rI F hQ hn hz hlocks hr (fun _ _ => rfl) dX7_of_136)
  (zc_so (si_aload_n F dX7_of_137 rfl)
  (zc_so (si_iload_n F dX7_of_138 rfl)
  (zc_so (si_cV F (IH 713 mm713) mp713 (by decide) rfl rfl (by decide) tb_300 mi713 ms713 mn713 mc713 dX7_of_139)
  (zc_so (si_rI F hQ hn hz hlocks hr (fun _ _ => rfl) dX7_of_142)
  (zc_so (si_sipush F dX7_of_143 rfl)
  (zc_so (si_rI F hQ hn hz hlocks hr (fun _ _ => rfl) dX7_of_146)
  (zc_nil)))))))))))
theorem sd703 (F : zFx p l R s m args meth c D cid kv N0 xs Ls RX7 cX7_of 3 n0 z0 nF zE d) (IH : zAllM l D cid kv N0 xs Ls d) (hQ : ∀ v h, Qq v h → v = r0 ∧ h = hF) (hn : nF = zN hF) (hz : zE = zZ hF) (hlocks : meth.locks = false) (hr : meth.sig.returnType = (some .int)) (pc : Nat) : zSo p l e R s m args below meth c D cid kv N0 xs Ls 3 (MQ below (zQc D cid kv N0 xs Ls ρ0 r0 hF) args s (nF - n0) (zE - z0) (zA N0)) ρ0 n0 z0 nF zE Qq (zCall d) pc (zTab 703 pc) := zc_tab [zt703_0, zt703_1, zt703_2] (zc_cons (sd703_0 F IH hQ hn hz hlocks hr) (zc_cons (sd703_1 F IH hQ hn hz hlocks hr) (zc_cons (sd703_2 F IH hQ hn hz hlocks hr) zc_end)))
theorem dX7_set_0 : decode cX7_set 0 = .ok (.aload_n 0, 1) := by decide +kernel
theorem dX7_set_1 : decode cX7_set 1 = .ok (.iload_n 1, 1) := by decide +kernel
theorem dX7_set_2 : decode cX7_set 2 = .ok (.invokevirtual 63, 3) := by decide +kernel
theorem dX7_set_5 : decode cX7_set 5 = .ok (.ifCond .eq 11, 3) := by decide +kernel
theorem dX7_set_8 : decode cX7_set 8 = .ok (.iload_n 2, 1) := by decide +kernel
theorem dX7_set_9 : decode cX7_set 9 = .ok (.iconst 1, 1) := by decide +kernel
theorem dX7_set_10 : decode cX7_set 10 = .ok (.invokestatic 55, 3) := by decide +kernel
theorem dX7_set_13 : decode cX7_set 13 = .ok (.ifCond .ne 5, 3) := by decide +kernel
theorem dX7_set_16 : decode cX7_set 16 = .ok (.iconst (-1), 1) := by decide +kernel
theorem dX7_set_17 : decode cX7_set 17 = .ok (.ireturn, 1) := by decide +kernel
theorem dX7_set_18 : decode cX7_set 18 = .ok (.iload_n 3, 1) := by decide +kernel
theorem dX7_set_19 : decode cX7_set 19 = .ok (.iload_n 2, 1) := by decide +kernel
theorem dX7_set_20 : decode cX7_set 20 = .ok (.ifCond .ne 8, 3) := by decide +kernel
theorem dX7_set_23 : decode cX7_set 23 = .ok (.bipush 99, 2) := by decide +kernel
theorem dX7_set_25 : decode cX7_set 25 = .ok (.goto 5, 3) := by decide +kernel
theorem dX7_set_28 : decode cX7_set 28 = .ok (.bipush 10, 2) := by decide +kernel
theorem dX7_set_30 : decode cX7_set 30 = .ok (.invokestatic 55, 3) := by decide +kernel
theorem dX7_set_33 : decode cX7_set 33 = .ok (.ifCond .ne 6, 3) := by decide +kernel
theorem dX7_set_36 : decode cX7_set 36 = .ok (.bipush (-2), 2) := by decide +kernel
theorem dX7_set_38 : decode cX7_set 38 = .ok (.ireturn, 1) := by decide +kernel
theorem dX7_set_39 : decode cX7_set 39 = .ok (.iload_n 2, 1) := by decide +kernel
theorem dX7_set_40 : decode cX7_set 40 = .ok (.ifCond .ne 15, 3) := by decide +kernel
theorem dX7_set_43 : decode cX7_set 43 = .ok (.aload_n 0, 1) := by decide +kernel
theorem dX7_set_44 : decode cX7_set 44 = .ok (.getfield 12, 3) := by decide +kernel
theorem dX7_set_47 : decode cX7_set 47 = .ok (.getfield 74, 3) := by decide +kernel
theorem dX7_set_50 : decode cX7_set 50 = .ok (.iload_n 1, 1) := by decide +kernel
theorem dX7_set_51 : decode cX7_set 51 = .ok (.iaload, 1) := by decide +kernel
theorem dX7_set_52 : decode cX7_set 52 = .ok (.goto 12, 3) := by decide +kernel
theorem dX7_set_55 : decode cX7_set 55 = .ok (.aload_n 0, 1) := by decide +kernel
theorem dX7_set_56 : decode cX7_set 56 = .ok (.getfield 12, 3) := by decide +kernel
theorem dX7_set_59 : decode cX7_set 59 = .ok (.getfield 77, 3) := by decide +kernel
theorem dX7_set_62 : decode cX7_set 62 = .ok (.iload_n 1, 1) := by decide +kernel
theorem dX7_set_63 : decode cX7_set 63 = .ok (.iaload, 1) := by decide +kernel
theorem dX7_set_64 : decode cX7_set 64 = .ok (.istore 4, 2) := by decide +kernel
theorem dX7_set_66 : decode cX7_set 66 = .ok (.iload_n 2, 1) := by decide +kernel
theorem dX7_set_67 : decode cX7_set 67 = .ok (.ifCond .ne 16, 3) := by decide +kernel
theorem dX7_set_70 : decode cX7_set 70 = .ok (.aload_n 0, 1) := by decide +kernel
theorem dX7_set_71 : decode cX7_set 71 = .ok (.getfield 12, 3) := by decide +kernel
theorem dX7_set_74 : decode cX7_set 74 = .ok (.getfield 74, 3) := by decide +kernel
theorem dX7_set_77 : decode cX7_set 77 = .ok (.iload_n 1, 1) := by decide +kernel
theorem dX7_set_78 : decode cX7_set 78 = .ok (.iload_n 3, 1) := by decide +kernel
theorem dX7_set_79 : decode cX7_set 79 = .ok (.iastore, 1) := by decide +kernel
theorem dX7_set_80 : decode cX7_set 80 = .ok (.goto 12, 3) := by decide +kernel
theorem dX7_set_83 : decode cX7_set 83 = .ok (.aload_n 0, 1) := by decide +kernel
theorem dX7_set_84 : decode cX7_set 84 = .ok (.getfield 12, 3) := by decide +kernel
theorem dX7_set_87 : decode cX7_set 87 = .ok (.iload_n 1, 1) := by decide +kernel
theorem dX7_set_88 : decode cX7_set 88 = .ok (.iload_n 3, 1) := by decide +kernel
theorem dX7_set_89 : decode cX7_set 89 = .ok (.invokevirtual 94, 3) := by decide +kernel
theorem dX7_set_92 : decode cX7_set 92 = .ok (.iload 4, 2) := by decide +kernel
theorem dX7_set_94 : decode cX7_set 94 = .ok (.ireturn, 1) := by decide +kernel
theorem sd704_0 (F : zFx p l R s m args meth c D cid kv N0 xs Ls RX7 cX7_set 5 n0 z0 nF zE d) (IH : zAllM l D cid kv N0 xs Ls d) (hQ : ∀ v h, Qq v h → v = r0 ∧ h = hF) (hn : nF = zN hF) (hz : zE = zZ hF) (hlocks : meth.locks = false) (hr : meth.sig.returnType = (some .int)) : zSoL p l e R s m args below meth c D cid kv N0 xs Ls 5 (MQ below (zQc D cid kv N0 xs Ls ρ0 r0 hF) args s (nF - n0) (zE - z0) (zA N0)) ρ0 n0 z0 nF zE Qq (zCall d) zt704_0 := zc_so (si_aload_n F dX7_set_0 rfl)
  (zc_so (si_iload_n F dX7_set_1 rfl)
  (zc_so (si_cV F (IH 743 mm743) mp743 (by decide) rfl rfl (by decide) tb_266 mi743 ms743 mn743 mc743 dX7_set_2)
  (zc_so (si_ifeq F dX7_set_5 rfl)
  (zc_so (si_iload_n F dX7_set_8 rfl)
  (zc_so (si_iconst F dX7_set_9 rfl)
  (zc_so (si_cS  F (IH 744 mm744) mp744 (by decide) tb_251 mi744 mn744 mc744 dX7_set_10)
  (zc_so (si_ifne F dX7_set_13 rfl)
  (zc_so (si_iconst F dX7_set_16 rfl)
  (zc_so (si_rI F hQ hn hz hlocks hr (fun _ _ => rfl) dX7_set_17)
  (zc_so (si_iload_n F dX7_set_18 rfl)
  (zc_so (si_iload_n F dX7_set_19 rfl)
  (zc_so (si_ifne F dX7_set_20 rfl)
  (zc_so (si_bipush F dX7_set_23 rfl)
  (zc_so (si_goto F dX7_set_25 rfl)
  (zc_so (si_bipush F dX7_set_28 rfl)
  (zc_so (si_cS  F (IH 744 mm744) mp744 (by decide) tb_251 mi744 mn744 mc744 dX7_set_30)
  (zc_so (si_ifne F dX7_set_33 rfl)
  (zc_so (si_bipush F dX7_set_36 rfl)
  (zc_so (si_rI F hQ hn hz hlocks hr (fun _ _ => rfl) dX7_set_38)
  (zc_so (si_iload_n F dX7_set_39 rfl)
  (zc_so (si_ifne F dX7_set_40 rfl)
  (zc_so (si_aload_n F dX7_set_43 rfl)
  (zc_so (si_getR (k := 0) F rfl inT7 (by decide) (by decide) rfl rfl tb_216 dX7_set_44)
  (zc_so (si_getR (k := 2) F rfl inT2 (by decide) (by decide) rfl rfl tb_38 dX7_set_47)
  (zc_so (si_iload_n F dX7_set_50 rfl)
  (zc_so (si_iaload F dX7_set_51)
  (zc_so (si_goto F dX7_set_52 rfl)
  (zc_so (si_aload_n F dX7_set_55 rfl)
  (zc_so (si_getR (k := 0) F rfl inT7 (by decide) (by decide) rfl rfl tb_216 dX7_set_56)
  (zc_so (si_getR (k := 3) F rfl inT2 (by decide) (by decide) rfl rfl tb_40 dX7_set_59)
  (zc_so (si_iload_n F dX7_set_62 rfl)
  (zc_so (si_iaload F dX7_set_63)
  (zc_nil)))))))))))))))))))))))))))))))))
theorem sd704_1 (F : zFx p l R s m args meth c D cid kv N0 xs Ls RX7 cX7_set 5 n0 z0 nF zE d) (IH : zAllM l D cid kv N0 xs Ls d) (hQ : ∀ v h, Qq v h → v = r0 ∧ h = hF) (hn : nF = zN hF) (hz : zE = zZ hF) (hlocks : meth.locks = false) (hr : meth.sig.returnType = (some .int)) : zSoL p l e R s m args below meth c D cid kv N0 xs Ls 5 (MQ below (zQc D cid kv N0 xs Ls ρ0 r0 hF) args s (nF - n0) (zE - z0) (zA N0)) ρ0 n0 z0 nF zE Qq (zCall d) zt704_1 := zc_so (si_istore F dX7_set_64)
  (zc_so (si_iload_n F dX7_set_66 rfl)
  (zc_so (si_ifne F dX7_set_67 rfl)
  (zc_so (si_aload_n F dX7_set_70 rfl)
  (zc_so (si_getR (k := 0) F rfl inT7 (by decide) (by decide) rfl rfl tb_216 dX7_set_71)
  (zc_so (si_getR (k := 2) F rfl inT2 (by decide) (by decide) rfl rfl tb_38 dX7_set_74)
  (zc_so (si_iload_n F dX7_set_77 rfl)
  (zc_so (si_iload_n F dX7_set_78 rfl)
  (zc_so (si_iastore F dX7_set_79)
  (zc_so (si_goto F dX7_set_80 rfl)
  (zc_so (si_aload_n F dX7_set_83 rfl)
  (zc_so (si_getR (k := 0) F rfl inT7 (by decide) (by decide) rfl rfl tb_216 dX7_set_84)
  (zc_so (si_iload_n F dX7_set_87 rfl)
  (zc_so (si_iload_n F dX7_set_88 rfl)
  (zc_so (si_cV F (IH 204 mm204) mp204 (by decide) rfl rfl (by decide) tb_325 mi204 ms204 mn204 mc204 dX7_set_89)
  (zc_so (si_iload F dX7_set_92)
  (zc_so (si_rI F hQ hn hz hlocks hr (fun _ _ => rfl) dX7_set_94)
  (zc_nil)))))))))))))))))
theorem sd704 (F : zFx p l R s m args meth c D cid kv N0 xs Ls RX7 cX7_set 5 n0 z0 nF zE d) (IH : zAllM l D cid kv N0 xs Ls d) (hQ : ∀ v h, Qq v h → v = r0 ∧ h = hF) (hn : nF = zN hF) (hz : zE = zZ hF) (hlocks : meth.locks = false) (hr : meth.sig.returnType = (some .int)) (pc : Nat) : zSo p l e R s m args below meth c D cid kv N0 xs Ls 5 (MQ below (zQc D cid kv N0 xs Ls ρ0 r0 hF) args s (nF - n0) (zE - z0) (zA N0)) ρ0 n0 z0 nF zE Qq (zCall d) pc (zTab 704 pc) := zc_tab [zt704_0, zt704_1] (zc_cons (sd704_0 F IH hQ hn hz hlocks hr) (zc_cons (sd704_1 F IH hQ hn hz hlocks hr) zc_end))
theorem dX7_back_0 : decode cX7_back 0 = .ok (.aload_n 0, 1) := by decide +kernel
theorem dX7_back_1 : decode cX7_back 1 = .ok (.iload_n 1, 1) := by decide +kernel
theorem dX7_back_2 : decode cX7_back 2 = .ok (.invokevirtual 63, 3) := by decide +kernel
theorem dX7_back_5 : decode cX7_back 5 = .ok (.ifCond .ne 5, 3) := by decide +kernel
theorem dX7_back_8 : decode cX7_back 8 = .ok (.iconst (-1), 1) := by decide +kernel
theorem dX7_back_9 : decode cX7_back 9 = .ok (.ireturn, 1) := by decide +kernel
theorem dX7_back_10 : decode cX7_back 10 = .ok (.aload_n 0, 1) := by decide +kernel
theorem dX7_back_11 : decode cX7_back 11 = .ok (.getfield 12, 3) := by decide +kernel
theorem dX7_back_14 : decode cX7_back 14 = .ok (.iload_n 1, 1) := by decide +kernel
theorem dX7_back_15 : decode cX7_back 15 = .ok (.invokevirtual 98, 3) := by decide +kernel
theorem dX7_back_18 : decode cX7_back 18 = .ok (.ifCond .ne 6, 3) := by decide +kernel
theorem dX7_back_21 : decode cX7_back 21 = .ok (.bipush (-3), 2) := by decide +kernel
theorem dX7_back_23 : decode cX7_back 23 = .ok (.ireturn, 1) := by decide +kernel
theorem dX7_back_24 : decode cX7_back 24 = .ok (.aload_n 0, 1) := by decide +kernel
theorem dX7_back_25 : decode cX7_back 25 = .ok (.getfield 12, 3) := by decide +kernel
theorem dX7_back_28 : decode cX7_back 28 = .ok (.getfield 80, 3) := by decide +kernel
theorem dX7_back_31 : decode cX7_back 31 = .ok (.iload_n 1, 1) := by decide +kernel
theorem dX7_back_32 : decode cX7_back 32 = .ok (.baload, 1) := by decide +kernel
theorem dX7_back_33 : decode cX7_back 33 = .ok (.ifCond .eq 7, 3) := by decide +kernel
theorem dX7_back_36 : decode cX7_back 36 = .ok (.iconst 1, 1) := by decide +kernel
theorem dX7_back_37 : decode cX7_back 37 = .ok (.goto 4, 3) := by decide +kernel
theorem dX7_back_40 : decode cX7_back 40 = .ok (.iconst 0, 1) := by decide +kernel
theorem dX7_back_41 : decode cX7_back 41 = .ok (.istore_n 3, 1) := by decide +kernel
theorem dX7_back_42 : decode cX7_back 42 = .ok (.aload_n 0, 1) := by decide +kernel
theorem dX7_back_43 : decode cX7_back 43 = .ok (.getfield 12, 3) := by decide +kernel
theorem dX7_back_46 : decode cX7_back 46 = .ok (.getfield 80, 3) := by decide +kernel
theorem dX7_back_49 : decode cX7_back 49 = .ok (.iload_n 1, 1) := by decide +kernel
theorem dX7_back_50 : decode cX7_back 50 = .ok (.iload_n 2, 1) := by decide +kernel
theorem dX7_back_51 : decode cX7_back 51 = .ok (.bastore, 1) := by decide +kernel
theorem dX7_back_52 : decode cX7_back 52 = .ok (.iload_n 3, 1) := by decide +kernel
theorem dX7_back_53 : decode cX7_back 53 = .ok (.ireturn, 1) := by decide +kernel
theorem sd705_0 (F : zFx p l R s m args meth c D cid kv N0 xs Ls RX7 cX7_back 4 n0 z0 nF zE d) (IH : zAllM l D cid kv N0 xs Ls d) (hQ : ∀ v h, Qq v h → v = r0 ∧ h = hF) (hn : nF = zN hF) (hz : zE = zZ hF) (hlocks : meth.locks = false) (hr : meth.sig.returnType = (some .int)) : zSoL p l e R s m args below meth c D cid kv N0 xs Ls 4 (MQ below (zQc D cid kv N0 xs Ls ρ0 r0 hF) args s (nF - n0) (zE - z0) (zA N0)) ρ0 n0 z0 nF zE Qq (zCall d) zt705_0 := zc_so (si_aload_n F dX7_back_0 rfl)
  (zc_so (si_iload_n F dX7_back_1 rfl)
  (zc_so (si_cV F (IH 743 mm743) mp743 (by decide) rfl rfl (by decide) tb_266 mi743 ms743 mn743 mc743 dX7_back_2)
  (zc_so (si_ifne F dX7_back_5 rfl)
  (zc_so (si_iconst F dX7_back_8 rfl)
  (zc_so (si_rI F hQ hn hz hlocks hr (fun _ _ => rfl) dX7_back_9)
  (zc_so (si_aload_n F dX7_back_10 rfl)
  (zc_so (si_getR (k := 0) F rfl inT7 (by decide) (by decide) rfl rfl tb_216 dX7_back_11)
  (zc_so (si_iload_n F dX7_back_14 rfl)
  (zc_so (si_cV F (IH 207 mm207) mp207 (by decide) rfl rfl (by decide) tb_330 mi207 ms207 mn207 mc207 dX7_back_15)
  (zc_so (si_ifne F dX7_back_18 rfl)
  (zc_so (si_bipush F dX7_back_21 rfl)
  (zc_so (si_rI F hQ hn hz hlocks hr (fun _ _ => rfl) dX7_back_23)
  (zc_so (si_aload_n F dX7_back_24 rfl)
  (zc_so (si_getR (k := 0) F rfl inT7 (by decide) (by decide) rfl rfl tb_216 dX7_back_25)
  (zc_so (si_getR (k := 5) F rfl inT2 (by decide) (by decide) rfl rfl tb_44 dX7_back_28)
  (zc_so (si_iload_n F dX7_back_31 rfl)
  (zc_so (si_baloadZ F dX7_back_32)
  (zc_so (si_ifeq F dX7_back_33 rfl)
  (zc_so (si_iconst F dX7_back_36 rfl)
  (zc_so (si_goto F dX7_back_37 rfl)
  (zc_so (si_iconst F dX7_back_40 rfl)
  (zc_so (si_istore_n F dX7_back_41 rfl)
  (zc_so (si_aload_n F dX7_back_42 rfl)
  (zc_so (si_getR (k := 0) F rfl inT7 (by decide) (by decide) rfl rfl tb_216 dX7_back_43)
  (zc_so (si_getR (k := 5) F rfl inT2 (by decide) (by decide) rfl rfl tb_44 dX7_back_46)
  (zc_so (si_iload_n F dX7_back_49 rfl)
  (zc_so (si_iload_n F dX7_back_50 rfl)
  (zc_so (si_bastoreZ F dX7_back_51)
  (zc_so (si_iload_n F dX7_back_52 rfl)
  (zc_so (si_rI F hQ hn hz hlocks hr (fun _ _ => rfl) dX7_back_53)
  (zc_nil)))))))))))))))))))))))))))))))
theorem sd705 (F : zFx p l R s m args meth c D cid kv N0 xs Ls RX7 cX7_back 4 n0 z0 nF zE d) (IH : zAllM l D cid kv N0 xs Ls d) (hQ : ∀ v h, Qq v h → v = r0 ∧ h = hF) (hn : nF = zN hF) (hz : zE = zZ hF) (hlocks : meth.locks = false) (hr : meth.sig.returnType = (some .int)) (pc : Nat) : zSo p l e R s m args below meth c D cid kv N0 xs Ls 4 (MQ below (zQc D cid kv N0 xs Ls ρ0 r0 hF) args s (nF - n0) (zE - z0) (zA N0)) ρ0 n0 z0 nF zE Qq (zCall d) pc (zTab 705 pc) := zc_tab [zt705_0] (zc_cons (sd705_0 F IH hQ hn hz hlocks hr) zc_end)
theorem dX7_purse_0 : decode cX7_purse 0 = .ok (.iload_n 1, 1) := by decide +kernel
theorem dX7_purse_1 : decode cX7_purse 1 = .ok (.ldc 101, 2) := by decide +kernel
theorem dX7_purse_3 : decode cX7_purse 3 = .ok (.invokestatic 55, 3) := by decide +kernel
theorem dX7_purse_6 : decode cX7_purse 6 = .ok (.ifCond .ne 6, 3) := by decide +kernel
theorem dX7_purse_9 : decode cX7_purse 9 = .ok (.bipush (-2), 2) := by decide +kernel
theorem dX7_purse_11 : decode cX7_purse 11 = .ok (.ireturn, 1) := by decide +kernel
theorem dX7_purse_12 : decode cX7_purse 12 = .ok (.aload_n 0, 1) := by decide +kernel
theorem dX7_purse_13 : decode cX7_purse 13 = .ok (.getfield 12, 3) := by decide +kernel
theorem dX7_purse_16 : decode cX7_purse 16 = .ok (.getfield 102, 3) := by decide +kernel
theorem dX7_purse_19 : decode cX7_purse 19 = .ok (.istore_n 2, 1) := by decide +kernel
theorem dX7_purse_20 : decode cX7_purse 20 = .ok (.aload_n 0, 1) := by decide +kernel
theorem dX7_purse_21 : decode cX7_purse 21 = .ok (.getfield 12, 3) := by decide +kernel
theorem dX7_purse_24 : decode cX7_purse 24 = .ok (.iload_n 1, 1) := by decide +kernel
theorem dX7_purse_25 : decode cX7_purse 25 = .ok (.putfield 102, 3) := by decide +kernel
theorem dX7_purse_28 : decode cX7_purse 28 = .ok (.iload_n 2, 1) := by decide +kernel
theorem dX7_purse_29 : decode cX7_purse 29 = .ok (.ireturn, 1) := by decide +kernel
theorem sd706_0 (F : zFx p l R s m args meth c D cid kv N0 xs Ls RX7 cX7_purse 3 n0 z0 nF zE d) (IH : zAllM l D cid kv N0 xs Ls d) (hQ : ∀ v h, Qq v h → v = r0 ∧ h = hF) (hn : nF = zN hF) (hz : zE = zZ hF) (hlocks : meth.locks = false) (hr : meth.sig.returnType = (some .int)) : zSoL p l e R s m args below meth c D cid kv N0 xs Ls 3 (MQ below (zQc D cid kv N0 xs Ls ρ0 r0 hF) args s (nF - n0) (zE - z0) (zA N0)) ρ0 n0 z0 nF zE Qq (zCall d) zt706_0 := zc_so (si_iload_n F dX7_purse_0 rfl)
  (zc_so (si_ldc F dX7_purse_1 tb_338)
  (zc_so (si_cS  F (IH 744 mm744) mp744 (by decide) tb_251 mi744 mn744 mc744 dX7_purse_3)
  (zc_so (si_ifne F dX7_purse_6 rfl)
  (zc_so (si_bipush F dX7_purse_9 rfl)
  (zc_so (si_rI F hQ hn hz hlocks hr (fun _ _ => rfl) dX7_purse_11)
  (zc_so (si_aload_n F dX7_purse_12 rfl)
  (zc_so (si_getR (k := 0) F rfl inT7 (by decide) (by decide) rfl rfl tb_216 dX7_purse_13)
  (zc_so (si_getI (k := 8) F rfl inT2 (by decide) (by decide) rfl rfl tb_50 dX7_purse_16)
  (zc_so (si_istore_n F dX7_purse_19 rfl)
  (zc_so (si_aload_n F dX7_purse_20 rfl)
  (zc_so (si_getR (k := 0) F rfl inT7 (by decide) (by decide) rfl rfl tb_216 dX7_purse_21)
  (zc_so (si_iload_n F dX7_purse_24 rfl)
  (zc_so (si_putI (k := 8) F rfl inT2 (by decide) (by decide) rfl rfl rfl rfl tyX2_ok nmX2 tb_50 dX7_purse_25)
  (zc_so (si_iload_n F dX7_purse_28 rfl)
  (zc_so (si_rI F hQ hn hz hlocks hr (fun _ _ => rfl) dX7_purse_29)
  (zc_nil))))))))))))))))
theorem sd706 (F : zFx p l R s m args meth c D cid kv N0 xs Ls RX7 cX7_purse 3 n0 z0 nF zE d) (IH : zAllM l D cid kv N0 xs Ls d) (hQ : ∀ v h, Qq v h → v = r0 ∧ h = hF) (hn : nF = zN hF) (hz : zE = zZ hF) (hlocks : meth.locks = false) (hr : meth.sig.returnType = (some .int)) (pc : Nat) : zSo p l e R s m args below meth c D cid kv N0 xs Ls 3 (MQ below (zQc D cid kv N0 xs Ls ρ0 r0 hF) args s (nF - n0) (zE - z0) (zA N0)) ρ0 n0 z0 nF zE Qq (zCall d) pc (zTab 706 pc) := zc_tab [zt706_0] (zc_cons (sd706_0 F IH hQ hn hz hlocks hr) zc_end)
theorem dX7_row_0 : decode cX7_row 0 = .ok (.aload_n 0, 1) := by decide +kernel
theorem dX7_row_1 : decode cX7_row 1 = .ok (.iload_n 1, 1) := by decide +kernel
theorem dX7_row_2 : decode cX7_row 2 = .ok (.invokevirtual 63, 3) := by decide +kernel
theorem dX7_row_5 : decode cX7_row 5 = .ok (.ifCond .eq 11, 3) := by decide +kernel
theorem dX7_row_8 : decode cX7_row 8 = .ok (.iload_n 2, 1) := by decide +kernel
theorem dX7_row_9 : decode cX7_row 9 = .ok (.iconst 3, 1) := by decide +kernel
theorem dX7_row_10 : decode cX7_row 10 = .ok (.invokestatic 55, 3) := by decide +kernel
theorem dX7_row_13 : decode cX7_row 13 = .ok (.ifCond .ne 5, 3) := by decide +kernel
theorem dX7_row_16 : decode cX7_row 16 = .ok (.iconst (-1), 1) := by decide +kernel
theorem dX7_row_17 : decode cX7_row 17 = .ok (.ireturn, 1) := by decide +kernel
theorem dX7_row_18 : decode cX7_row 18 = .ok (.iload_n 3, 1) := by decide +kernel
theorem dX7_row_19 : decode cX7_row 19 = .ok (.bipush 9, 2) := by decide +kernel
theorem dX7_row_21 : decode cX7_row 21 = .ok (.invokestatic 55, 3) := by decide +kernel
theorem dX7_row_24 : decode cX7_row 24 = .ok (.ifCond .ne 6, 3) := by decide +kernel
theorem dX7_row_27 : decode cX7_row 27 = .ok (.bipush (-2), 2) := by decide +kernel
theorem dX7_row_29 : decode cX7_row 29 = .ok (.ireturn, 1) := by decide +kernel
theorem dX7_row_30 : decode cX7_row 30 = .ok (.aload_n 0, 1) := by decide +kernel
theorem dX7_row_31 : decode cX7_row 31 = .ok (.getfield 12, 3) := by decide +kernel
theorem dX7_row_34 : decode cX7_row 34 = .ok (.getfield 67, 3) := by decide +kernel
theorem dX7_row_37 : decode cX7_row 37 = .ok (.iload_n 1, 1) := by decide +kernel
theorem dX7_row_38 : decode cX7_row 38 = .ok (.iaload, 1) := by decide +kernel
theorem dX7_row_39 : decode cX7_row 39 = .ok (.bipush 6, 2) := by decide +kernel
theorem dX7_row_41 : decode cX7_row 41 = .ok (.if_icmp .eq 6, 3) := by decide +kernel
theorem dX7_row_44 : decode cX7_row 44 = .ok (.bipush (-3), 2) := by decide +kernel
theorem dX7_row_46 : decode cX7_row 46 = .ok (.ireturn, 1) := by decide +kernel
theorem dX7_row_47 : decode cX7_row 47 = .ok (.aload_n 0, 1) := by decide +kernel
theorem dX7_row_48 : decode cX7_row 48 = .ok (.getfield 12, 3) := by decide +kernel
theorem dX7_row_51 : decode cX7_row 51 = .ok (.getfield 106, 3) := by decide +kernel
theorem dX7_row_54 : decode cX7_row 54 = .ok (.iload_n 1, 1) := by decide +kernel
theorem dX7_row_55 : decode cX7_row 55 = .ok (.aaload, 1) := by decide +kernel
theorem dX7_row_56 : decode cX7_row 56 = .ok (.iload_n 2, 1) := by decide +kernel
theorem dX7_row_57 : decode cX7_row 57 = .ok (.iaload, 1) := by decide +kernel
theorem dX7_row_58 : decode cX7_row 58 = .ok (.istore 4, 2) := by decide +kernel
theorem dX7_row_60 : decode cX7_row 60 = .ok (.aload_n 0, 1) := by decide +kernel
theorem dX7_row_61 : decode cX7_row 61 = .ok (.getfield 12, 3) := by decide +kernel
theorem dX7_row_64 : decode cX7_row 64 = .ok (.getfield 106, 3) := by decide +kernel
theorem dX7_row_67 : decode cX7_row 67 = .ok (.iload_n 1, 1) := by decide +kernel
theorem dX7_row_68 : decode cX7_row 68 = .ok (.aaload, 1) := by decide +kernel
theorem dX7_row_69 : decode cX7_row 69 = .ok (.iload_n 2, 1) := by decide +kernel
theorem dX7_row_70 : decode cX7_row 70 = .ok (.iload_n 3, 1) := by decide +kernel
theorem dX7_row_71 : decode cX7_row 71 = .ok (.iastore, 1) := by decide +kernel
theorem dX7_row_72 : decode cX7_row 72 = .ok (.iload 4, 2) := by decide +kernel
theorem dX7_row_74 : decode cX7_row 74 = .ok (.ireturn, 1) := by decide +kernel
theorem sd707_0 (F : zFx p l R s m args meth c D cid kv N0 xs Ls RX7 cX7_row 5 n0 z0 nF zE d) (IH : zAllM l D cid kv N0 xs Ls d) (hQ : ∀ v h, Qq v h → v = r0 ∧ h = hF) (hn : nF = zN hF) (hz : zE = zZ hF) (hlocks : meth.locks = false) (hr : meth.sig.returnType = (some .int)) : zSoL p l e R s m args below meth c D cid kv N0 xs Ls 5 (MQ below (zQc D cid kv N0 xs Ls ρ0 r0 hF) args s (nF - n0) (zE - z0) (zA N0)) ρ0 n0 z0 nF zE Qq (zCall d) zt707_0 := zc_so (si_aload_n F dX7_row_0 rfl)
  (zc_so (si_iload_n F dX7_row_1 rfl)
  (zc_so (si_cV F (IH 743 mm743) mp743 (by decide) rfl rfl (by decide) tb_266 mi743 ms743 mn743 mc743 dX7_row_2)
  (zc_so (si_ifeq F dX7_row_5 rfl)
  (zc_so (si_iload_n F dX7_row_8 rfl)
  (zc_so (si_iconst F dX7_row_9 rfl)
  (zc_so (si_cS  F (IH 744 mm744) mp744 (by decide) tb_251 mi744 mn744 mc744 dX7_row_10)
  (zc_so (si_ifne F dX7_row_13 rfl)
  (zc_so (si_iconst F dX7_row_16 rfl)
  (zc_so (si_rI F hQ hn hz hlocks hr (fun _ _ => rfl) dX7_row_17)
  (zc_so (si_iload_n F dX7_row_18 rfl)
  (zc_so (si_bipush F dX7_row_19 rfl)
  (zc_so (si_cS  F (IH 744 mm744) mp744 (by decide) tb_251 mi744 mn744 mc744 dX7_row_21)
  (zc_so (si_ifne F dX7_row_24 rfl)
  (zc_so (si_bipush F dX7_row_27 rfl)
  (zc_so (si_rI F hQ hn hz hlocks hr (fun _ _ => rfl) dX7_row_29)
  (zc_so (si_aload_n F dX7_row_30 rfl)
  (zc_so (si_getR (k := 0) F rfl inT7 (by decide) (by decide) rfl rfl tb_216 dX7_row_31)
  (zc_so (si_getR (k := 0) F rfl inT2 (by decide) (by decide) rfl rfl tb_34 dX7_row_34)
  (zc_so (si_iload_n F dX7_row_37 rfl)
  (zc_so (si_iaload F dX7_row_38)
  (zc_so (si_bipush F dX7_row_39 rfl)
  (zc_so (si_iceq F dX7_row_41 rfl)
  (zc_so (si_bipush F dX7_row_44 rfl)
  (zc_so (si_rI F hQ hn hz hlocks hr (fun _ _ => rfl) dX7_row_46)
  (zc_so (si_aload_n F dX7_row_47 rfl)
  (zc_so (si_getR (k := 0) F rfl inT7 (by decide) (by decide) rfl rfl tb_216 dX7_row_48)
  (zc_so (si_getR (k := 6) F rfl inT2 (by decide) (by decide) rfl rfl tb_46 dX7_row_51)
  (zc_so (si_iload_n F dX7_row_54 rfl)
  (zc_so (si_aaloadI F dX7_row_55)
  (zc_so (si_iload_n F dX7_row_56 rfl)
  (zc_so (si_iaload F dX7_row_57)
  (zc_so (si_istore F dX7_row_58)
  (zc_so (si_aload_n F dX7_row_60 rfl)
  (zc_so (si_getR (k := 0) F rfl inT7 (by decide) (by decide) rfl rfl tb_216 dX7_row_61)
  (zc_nil)))))))))))))))))))))))))))))))))))
theorem sd707_1 (F : zFx p l R s m args meth c D cid kv N0 xs Ls RX7 cX7_row 5 n0 z0 nF zE d) (IH : zAllM l D cid kv N0 xs Ls d) (hQ : ∀ v h, Qq v h → v = r0 ∧ h = hF) (hn : nF = zN hF) (hz : zE = zZ hF) (hlocks : meth.locks = false) (hr : meth.sig.returnType = (some .int)) : zSoL p l e R s m args below meth c D cid kv N0 xs Ls 5 (MQ below (zQc D cid kv N0 xs Ls ρ0 r0 hF) args s (nF - n0) (zE - z0) (zA N0)) ρ0 n0 z0 nF zE Qq (zCall d) zt707_1 := zc_so (si_getR (k := 6) F rfl inT2 (by decide) (by decide) rfl rfl tb_46 dX7_row_64)
  (zc_so (si_iload_n F dX7_row_67 rfl)
  (zc_so (si_aaloadI F dX7_row_68)
  (zc_so (si_iload_n F dX7_row_69 rfl)
  (zc_so (si_iload_n F dX7_row_70 rfl)
  (zc_so (si_iastore F dX7_row_71)
  (zc_so (si_iload F dX7_row_72)
  (zc_so (si_rI F hQ hn hz hlocks hr (fun _ _ => rfl) dX7_row_74)
  (zc_nil))))))))
theorem sd707 (F : zFx p l R s m args meth c D cid kv N0 xs Ls RX7 cX7_row 5 n0 z0 nF zE d) (IH : zAllM l D cid kv N0 xs Ls d) (hQ : ∀ v h, Qq v h → v = r0 ∧ h = hF) (hn : nF = zN hF) (hz : zE = zZ hF) (hlocks : meth.locks = false) (hr : meth.sig.returnType = (some .int)) (pc : Nat) : zSo p l e R s m args below meth c D cid kv N0 xs Ls 5 (MQ below (zQc D cid kv N0 xs Ls ρ0 r0 hF) args s (nF - n0) (zE - z0) (zA N0)) ρ0 n0 z0 nF zE Qq (zCall d) pc (zTab 707 pc) := zc_tab [zt707_0, zt707_1] (zc_cons (sd707_0 F IH hQ hn hz hlocks hr) (zc_cons (sd707_1 F IH hQ hn hz hlocks hr) zc_end))
theorem dX7_feed_0 : decode cX7_feed 0 = .ok (.iload_n 1, 1) := by decide +kernel
theorem dX7_feed_1 : decode cX7_feed 1 = .ok (.bipush 127, 2) := by decide +kernel
theorem dX7_feed_3 : decode cX7_feed 3 = .ok (.invokestatic 55, 3) := by decide +kernel
theorem dX7_feed_6 : decode cX7_feed 6 = .ok (.ifCond .ne 6, 3) := by decide +kernel
theorem dX7_feed_9 : decode cX7_feed 9 = .ok (.bipush (-2), 2) := by decide +kernel
theorem dX7_feed_11 : decode cX7_feed 11 = .ok (.ireturn, 1) := by decide +kernel
theorem dX7_feed_12 : decode cX7_feed 12 = .ok (.aload_n 0, 1) := by decide +kernel
theorem dX7_feed_13 : decode cX7_feed 13 = .ok (.getfield 37, 3) := by decide +kernel
theorem dX7_feed_16 : decode cX7_feed 16 = .ok (.iload_n 1, 1) := by decide +kernel
theorem dX7_feed_17 : decode cX7_feed 17 = .ok (.invokevirtual 110, 3) := by decide +kernel
theorem dX7_feed_20 : decode cX7_feed 20 = .ok (.ireturn, 1) := by decide +kernel
theorem sd708_0 (F : zFx p l R s m args meth c D cid kv N0 xs Ls RX7 cX7_feed 2 n0 z0 nF zE d) (IH : zAllM l D cid kv N0 xs Ls d) (hQ : ∀ v h, Qq v h → v = r0 ∧ h = hF) (hn : nF = zN hF) (hz : zE = zZ hF) (hlocks : meth.locks = false) (hr : meth.sig.returnType = (some .int)) : zSoL p l e R s m args below meth c D cid kv N0 xs Ls 2 (MQ below (zQc D cid kv N0 xs Ls ρ0 r0 hF) args s (nF - n0) (zE - z0) (zA N0)) ρ0 n0 z0 nF zE Qq (zCall d) zt708_0 := zc_so (si_iload_n F dX7_feed_0 rfl)
  (zc_so (si_bipush F dX7_feed_1 rfl)
  (zc_so (si_cS  F (IH 744 mm744) mp744 (by decide) tb_251 mi744 mn744 mc744 dX7_feed_3)
  (zc_so (si_ifne F dX7_feed_6 rfl)
  (zc_so (si_bipush F dX7_feed_9 rfl)
  (zc_so (si_rI F hQ hn hz hlocks hr (fun _ _ => rfl) dX7_feed_11)
  (zc_so (si_aload_n F dX7_feed_12 rfl)
  (zc_so (si_getR (k := 6) F rfl inT7 (by decide) (by decide) rfl rfl tb_222 dX7_feed_13)
  (zc_so (si_iload_n F dX7_feed_16 rfl)
  (zc_so (si_cV F (IH 502 mm502) mp502 (by decide) rfl rfl (by decide) tb_347 mi502 ms502 mn502 mc502 dX7_feed_17)
  (zc_so (si_rI F hQ hn hz hlocks hr (fun _ _ => rfl) dX7_feed_20)
  (zc_nil)))))))))))
theorem sd708 (F : zFx p l R s m args meth c D cid kv N0 xs Ls RX7 cX7_feed 2 n0 z0 nF zE d) (IH : zAllM l D cid kv N0 xs Ls d) (hQ : ∀ v h, Qq v h → v = r0 ∧ h = hF) (hn : nF = zN hF) (hz : zE = zZ hF) (hlocks : meth.locks = false) (hr : meth.sig.returnType = (some .int)) (pc : Nat) : zSo p l e R s m args below meth c D cid kv N0 xs Ls 2 (MQ below (zQc D cid kv N0 xs Ls ρ0 r0 hF) args s (nF - n0) (zE - z0) (zA N0)) ρ0 n0 z0 nF zE Qq (zCall d) pc (zTab 708 pc) := zc_tab [zt708_0] (zc_cons (sd708_0 F IH hQ hn hz hlocks hr) zc_end)
theorem dX7_season_0 : decode cX7_season 0 = .ok (.aload_n 0, 1) := by decide +kernel
theorem dX7_season_1 : decode cX7_season 1 = .ok (.getfield 113, 3) := by decide +kernel
theorem dX7_season_4 : decode cX7_season 4 = .ok (.bipush 6, 2) := by decide +kernel
theorem dX7_season_6 : decode cX7_season 6 = .ok (.if_icmp .lt 6, 3) := by decide +kernel
theorem dX7_season_9 : decode cX7_season 9 = .ok (.bipush (-4), 2) := by decide +kernel
theorem dX7_season_11 : decode cX7_season 11 = .ok (.ireturn, 1) := by decide +kernel
theorem dX7_season_12 : decode cX7_season 12 = .ok (.aload_n 0, 1) := by decide +kernel
theorem dX7_season_13 : decode cX7_season 13 = .ok (.getfield 37, 3) := by decide +kernel
theorem dX7_season_16 : decode cX7_season 16 = .ok (.invokevirtual 116, 3) := by decide +kernel
theorem dX7_season_19 : decode cX7_season 19 = .ok (.istore_n 1, 1) := by decide +kernel
theorem dX7_season_20 : decode cX7_season 20 = .ok (.iload_n 1, 1) := by decide +kernel
theorem dX7_season_21 : decode cX7_season 21 = .ok (.ifCond .lt 8, 3) := by decide +kernel
theorem dX7_season_24 : decode cX7_season 24 = .ok (.bipush (-10), 2) := by decide +kernel
theorem dX7_season_26 : decode cX7_season 26 = .ok (.iload_n 1, 1) := by decide +kernel
theorem dX7_season_27 : decode cX7_season 27 = .ok (.isub, 1) := by decide +kernel
theorem dX7_season_28 : decode cX7_season 28 = .ok (.ireturn, 1) := by decide +kernel
theorem dX7_season_29 : decode cX7_season 29 = .ok (.aload_n 0, 1) := by decide +kernel
theorem dX7_season_30 : decode cX7_season 30 = .ok (.getfield 12, 3) := by decide +kernel
theorem dX7_season_33 : decode cX7_season 33 = .ok (.aload_n 0, 1) := by decide +kernel
theorem dX7_season_34 : decode cX7_season 34 = .ok (.getfield 37, 3) := by decide +kernel
theorem dX7_season_37 : decode cX7_season 37 = .ok (.invokevirtual 120, 3) := by decide +kernel
theorem dX7_season_40 : decode cX7_season 40 = .ok (.putfield 124, 3) := by decide +kernel
theorem dX7_season_43 : decode cX7_season 43 = .ok (.aload_n 0, 1) := by decide +kernel
theorem dX7_season_44 : decode cX7_season 44 = .ok (.dup, 1) := by decide +kernel
theorem dX7_season_45 : decode cX7_season 45 = .ok (.getfield 113, 3) := by decide +kernel
theorem dX7_season_48 : decode cX7_season 48 = .ok (.iconst 1, 1) := by decide +kernel
theorem dX7_season_49 : decode cX7_season 49 = .ok (.iadd, 1) := by decide +kernel
theorem dX7_season_50 : decode cX7_season 50 = .ok (.putfield 113, 3) := by decide +kernel
theorem dX7_season_53 : decode cX7_season 53 = .ok (.aload_n 0, 1) := by decide +kernel
theorem dX7_season_54 : decode cX7_season 54 = .ok (.getfield 113, 3) := by decide +kernel
theorem dX7_season_57 : decode cX7_season 57 = .ok (.iconst 1, 1) := by decide +kernel
theorem dX7_season_58 : decode cX7_season 58 = .ok (.isub, 1) := by decide +kernel
theorem dX7_season_59 : decode cX7_season 59 = .ok (.ireturn, 1) := by decide +kernel
theorem sd709_0 (F : zFx p l R s m args meth c D cid kv N0 xs Ls RX7 cX7_season 2 n0 z0 nF zE d) (IH : zAllM l D cid kv N0 xs Ls d) (hQ : ∀ v h, Qq v h → v = r0 ∧ h = hF) (hn : nF = zN hF) (hz : zE = zZ hF) (hlocks : meth.locks = false) (hr : meth.sig.returnType = (some .int)) : zSoL p l e R s m args below meth c D cid kv N0 xs Ls 2 (MQ below (zQc D cid kv N0 xs Ls ρ0 r0 hF) args s (nF - n0) (zE - z0) (zA N0)) ρ0 n0 z0 nF zE Qq (zCall d) zt709_0 := zc_so (si_aload_n F dX7_season_0 rfl)
  (zc_so (si_getI (k := 7) F rfl inT7 (by decide) (by decide) rfl rfl tb_223 dX7_season_1)
  (zc_so (si_bipush F dX7_season_4 rfl)
  (zc_so (si_iclt F dX7_season_6 rfl)
  (zc_so (si_bipush F dX7_season_9 rfl)
  (zc_so (si_rI F hQ hn hz hlocks hr (fun _ _ => rfl) dX7_season_11)
  (zc_so (si_aload_n F dX7_season_12 rfl)
  (zc_so (si_getR (k := 6) F rfl inT7 (by decide) (by decide) rfl rfl tb_222 dX7_season_13)
  (zc_so (si_cV F (IH 503 mm503) mp503 (by decide) rfl rfl (by decide) tb_355 mi503 ms503 mn503 mc503 dX7_season_16)
  (zc_so (si_istore_n F dX7_season_19 rfl)
  (zc_so (si_iload_n F dX7_season_20 rfl)
  (zc_so (si_iflt F dX7_season_21 rfl)
  (zc_so (si_bipush F dX7_season_24 rfl)
  (zc_so (si_iload_n F dX7_season_26 rfl)
  (zc_so (si_isub F dX7_season_27)
  (zc_so (si_rI F hQ hn hz hlocks hr (fun _ _ => rfl) dX7_season_28)
  (zc_so (si_aload_n F dX7_season_29 rfl)
  (zc_so (si_getR (k := 0) F rfl inT7 (by decide) (by decide) rfl rfl tb_216 dX7_season_30)
  (zc_so (si_aload_n F dX7_season_33 rfl)
  (zc_so (si_getR (k := 6) F rfl inT7 (by decide) (by decide) rfl rfl tb_222 dX7_season_34)
  (zc_so (si_cV F (IH 504 mm504) mp504 (by decide) rfl rfl (by decide) tb_460 mi504 ms504 mn504 mc504 dX7_season_37)
  (zc_so (si_putR (k := 10) F rfl inT2 (by decide) (by decide) rfl rfl rfl (fun o => by cases o <;> exact ⟨rfl, rfl⟩) rfl tyX2_ok nmX2 tb_54 dX7_season_40)
  (zc_so (si_aload_n F dX7_season_43 rfl)
  (zc_so (si_dup F dX7_season_44)
  (zc_so (si_getI (k := 7) F rfl inT7 (by decide) (by decide) rfl rfl tb_223 dX7_season_45)
  (zc_so (si_iconst F dX7_season_48 rfl)
  (zc_so (si_iadd F dX7_season_49)
  (zc_so (si_putI (k := 7) F rfl inT7 (by decide) (by decide) rfl rfl rfl rfl tyX7_ok nmX7 tb_223 dX7_season_50)
  (zc_so (si_aload_n F dX7_season_53 rfl)
  (zc_so (si_getI (k := 7) F rfl inT7 (by decide) (by decide) rfl rfl tb_223 dX7_season_54)
  (zc_so (si_iconst F dX7_season_57 rfl)
  (zc_so (si_isub F dX7_season_58)
  (zc_so (si_rI F hQ hn hz hlocks hr (fun _ _ => rfl) dX7_season_59)
  (zc_nil)))))))))))))))))))))))))))))))))
theorem sd709 (F : zFx p l R s m args meth c D cid kv N0 xs Ls RX7 cX7_season 2 n0 z0 nF zE d) (IH : zAllM l D cid kv N0 xs Ls d) (hQ : ∀ v h, Qq v h → v = r0 ∧ h = hF) (hn : nF = zN hF) (hz : zE = zZ hF) (hlocks : meth.locks = false) (hr : meth.sig.returnType = (some .int)) (pc : Nat) : zSo p l e R s m args below meth c D cid kv N0 xs Ls 2 (MQ below (zQc D cid kv N0 xs Ls ρ0 r0 hF) args s (nF - n0) (zE - z0) (zA N0)) ρ0 n0 z0 nF zE Qq (zCall d) pc (zTab 709 pc) := zc_tab [zt709_0] (zc_cons (sd709_0 F IH hQ hn hz hlocks hr) zc_end)
theorem dX7_told_0 : decode cX7_told 0 = .ok (.iload_n 1, 1) := by decide +kernel
theorem dX7_told_1 : decode cX7_told 1 = .ok (.tableswitch 90 0 5 #[39, 47, 55, 63, 73, 81], 39) := by decide +kernel
theorem dX7_told_40 : decode cX7_told 40 = .ok (.aload_n 0, 1) := by decide +kernel
theorem dX7_told_41 : decode cX7_told 41 = .ok (.getfield 12, 3) := by decide +kernel
theorem dX7_told_44 : decode cX7_told 44 = .ok (.getfield 128, 3) := by decide +kernel
theorem dX7_told_47 : decode cX7_told 47 = .ok (.ireturn, 1) := by decide +kernel
theorem dX7_told_48 : decode cX7_told 48 = .ok (.aload_n 0, 1) := by decide +kernel
theorem dX7_told_49 : decode cX7_told 49 = .ok (.getfield 12, 3) := by decide +kernel
theorem dX7_told_52 : decode cX7_told 52 = .ok (.invokevirtual 131, 3) := by decide +kernel
theorem dX7_told_55 : decode cX7_told 55 = .ok (.ireturn, 1) := by decide +kernel
theorem dX7_told_56 : decode cX7_told 56 = .ok (.aload_n 0, 1) := by decide +kernel
theorem dX7_told_57 : decode cX7_told 57 = .ok (.getfield 12, 3) := by decide +kernel
theorem dX7_told_60 : decode cX7_told 60 = .ok (.getfield 102, 3) := by decide +kernel
theorem dX7_told_63 : decode cX7_told 63 = .ok (.ireturn, 1) := by decide +kernel
theorem dX7_told_64 : decode cX7_told 64 = .ok (.aload_n 0, 1) := by decide +kernel
theorem dX7_told_65 : decode cX7_told 65 = .ok (.getfield 12, 3) := by decide +kernel
theorem dX7_told_68 : decode cX7_told 68 = .ok (.bipush 10, 2) := by decide +kernel
theorem dX7_told_70 : decode cX7_told 70 = .ok (.invokevirtual 134, 3) := by decide +kernel
theorem dX7_told_73 : decode cX7_told 73 = .ok (.ireturn, 1) := by decide +kernel
theorem dX7_told_74 : decode cX7_told 74 = .ok (.aload_n 0, 1) := by decide +kernel
theorem dX7_told_75 : decode cX7_told 75 = .ok (.getfield 12, 3) := by decide +kernel
theorem dX7_told_78 : decode cX7_told 78 = .ok (.invokevirtual 137, 3) := by decide +kernel
theorem dX7_told_81 : decode cX7_told 81 = .ok (.ireturn, 1) := by decide +kernel
theorem dX7_told_82 : decode cX7_told 82 = .ok (.aload_n 0, 1) := by decide +kernel
theorem dX7_told_83 : decode cX7_told 83 = .ok (.getfield 12, 3) := by decide +kernel
theorem dX7_told_86 : decode cX7_told 86 = .ok (.iconst 5, 1) := by decide +kernel
theorem dX7_told_87 : decode cX7_told 87 = .ok (.invokevirtual 134, 3) := by decide +kernel
theorem dX7_told_90 : decode cX7_told 90 = .ok (.ireturn, 1) := by decide +kernel
theorem dX7_told_91 : decode cX7_told 91 = .ok (.iconst (-1), 1) := by decide +kernel
theorem dX7_told_92 : decode cX7_told 92 = .ok (.ireturn, 1) := by decide +kernel
theorem sd710_0 (F : zFx p l R s m args meth c D cid kv N0 xs Ls RX7 cX7_told 2 n0 z0 nF zE d) (IH : zAllM l D cid kv N0 xs Ls d) (hQ : ∀ v h, Qq v h → v = r0 ∧ h = hF) (hn : nF = zN hF) (hz : zE = zZ hF) (hlocks : meth.locks = false) (hr : meth.sig.returnType = (some .int)) : zSoL p l e R s m args below meth c D cid kv N0 xs Ls 2 (MQ below (zQc D cid kv N0 xs Ls ρ0 r0 hF) args s (nF - n0) (zE - z0) (zA N0)) ρ0 n0 z0 nF zE Qq (zCall d) zt710_0 := zc_so (si_iload_n F dX7_told_0 rfl)
  (zc_so (so_swT F.1.1 F.1.2.1 dX7_told_1 rfl rfl ⟨rfl, rfl, ⟨rfl, rfl, ⟨rfl, rfl, ⟨rfl, rfl, ⟨rfl, rfl, ⟨rfl, rfl, trivial⟩⟩⟩⟩⟩⟩)
  (zc_so (si_aload_n F dX7_told_40 rfl)
  (zc_so (si_getR (k := 0) F rfl inT7 (by decide) (by decide) rfl rfl tb_216 dX7_told_41)
  (zc_so (si_getI (k := 9) F rfl inT2 (by decide) (by decide) rfl rfl tb_52 dX7_told_44)
  (zc_so (si_rI F hQ hn hz hlocks hr (fun _ _ => rfl) dX7_told_47)
  (zc_so (si_aload_n F dX7_told_48 rfl)
  (zc_so (si_getR (k := 0) F rfl inT7 (by decide) (by decide) rfl rfl tb_216 dX7_told_49)
  (zc_so (si_cV F (IH 213 mm213) mp213 (by decide) rfl rfl (by decide) tb_468 mi213 ms213 mn213 mc213 dX7_told_52)
  (zc_so (si_rI F hQ hn hz hlocks hr (fun _ _ => rfl) dX7_told_55)
  (zc_so (si_aload_n F dX7_told_56 rfl)
  (zc_so (si_getR (k := 0) F rfl inT7 (by decide) (by decide) rfl rfl tb_216 dX7_told_57)
  (zc_so (si_getI (k := 8) F rfl inT2 (by decide) (by decide) rfl rfl tb_50 dX7_told_60)
  (zc_so (si_rI F hQ hn hz hlocks hr (fun _ _ => rfl) dX7_told_63)
  (zc_nil))))))))))))))
theorem sd710_1 (F : zFx p l R s m args meth c D cid kv N0 xs Ls RX7 cX7_told 2 n0 z0 nF zE d) (IH : zAllM l D cid kv N0 xs Ls d) (hQ : ∀ v h, Qq v h → v = r0 ∧ h = hF) (hn : nF = zN hF) (hz : zE = zZ hF) (hlocks : meth.locks = false) (hr : meth.sig.returnType = (some .int)) : zSoL p l e R s m args below meth c D cid kv N0 xs Ls 2 (MQ below (zQc D cid kv N0 xs Ls ρ0 r0 hF) args s (nF - n0) (zE - z0) (zA N0)) ρ0 n0 z0 nF zE Qq (zCall d) zt710_1 := zc_so (si_aload_n F dX7_told_64 rfl)
  (zc_so (si_getR (k := 0) F rfl inT7 (by decide) (by decide) rfl rfl tb_216 dX7_told_65)
  (zc_so (si_bipush F dX7_told_68 rfl)
  (zc_so (si_cV F (IH 208 mm208) mp208 (by decide) rfl rfl (by decide) tb_469 mi208 ms208 mn208 mc208 dX7_told_70)
  (zc_so (si_rI F hQ hn hz hlocks hr (fun _ _ => rfl) dX7_told_73)
  (zc_so (si_aload_n F dX7_told_74 rfl)
  (zc_so (si_getR (k := 0) F rfl inT7 (by decide) (by decide) rfl rfl tb_216 dX7_told_75)
  (zc_so (si_cV F (IH 209 mm209) mp209 (by decide) rfl rfl (by decide) tb_470 mi209 ms209 mn209 mc209 dX7_told_78)
  (zc_so (si_rI F hQ hn hz hlocks hr (fun _ _ => rfl) dX7_told_81)
  (zc_so (si_aload_n F dX7_told_82 rfl)
  (zc_so (si_getR (k := 0) F rfl inT7 (by decide) (by decide) rfl rfl tb_216 dX7_told_83)
  (zc_so (si_iconst F dX7_told_86 rfl)
  (zc_so (si_cV F (IH 208 mm208) mp208 (by decide) rfl rfl (by decide) tb_469 mi208 ms208 mn208 mc208 dX7_told_87)
  (zc_so (si_rI F hQ hn hz hlocks hr (fun _ _ => rfl) dX7_told_90)
  (zc_so (si_iconst F dX7_told_91 rfl)
  (zc_so (si_rI F hQ hn hz hlocks hr (fun _ _ => rfl) dX7_told_92)
  (zc_nil))))))))))))))))
theorem sd710 (F : zFx p l R s m args meth c D cid kv N0 xs Ls RX7 cX7_told 2 n0 z0 nF zE d) (IH : zAllM l D cid kv N0 xs Ls d) (hQ : ∀ v h, Qq v h → v = r0 ∧ h = hF) (hn : nF = zN hF) (hz : zE = zZ hF) (hlocks : meth.locks = false) (hr : meth.sig.returnType = (some .int)) (pc : Nat) : zSo p l e R s m args below meth c D cid kv N0 xs Ls 2 (MQ below (zQc D cid kv N0 xs Ls ρ0 r0 hF) args s (nF - n0) (zE - z0) (zA N0)) ρ0 n0 z0 nF zE Qq (zCall d) pc (zTab 710 pc) := zc_tab [zt710_0, zt710_1] (zc_cons (sd710_0 F IH hQ hn hz hlocks hr) (zc_cons (sd710_1 F IH hQ hn hz hlocks hr) zc_end))
theorem dX7_pass_0 : decode cX7_pass 0 = .ok (.iload_n 1, 1) := by decide +kernel
theorem dX7_pass_1 : decode cX7_pass 1 = .ok (.bipush 60, 2) := by decide +kernel
theorem dX7_pass_3 : decode cX7_pass 3 = .ok (.invokestatic 55, 3) := by decide +kernel
theorem dX7_pass_6 : decode cX7_pass 6 = .ok (.ifCond .ne 6, 3) := by decide +kernel
theorem dX7_pass_9 : decode cX7_pass 9 = .ok (.bipush (-2), 2) := by decide +kernel
theorem dX7_pass_11 : decode cX7_pass 11 = .ok (.ireturn, 1) := by decide +kernel
theorem dX7_pass_12 : decode cX7_pass 12 = .ok (.aload_n 0, 1) := by decide +kernel
theorem dX7_pass_13 : decode cX7_pass 13 = .ok (.getfield 12, 3) := by decide +kernel
theorem dX7_pass_16 : decode cX7_pass 16 = .ok (.getfield 128, 3) := by decide +kernel
theorem dX7_pass_19 : decode cX7_pass 19 = .ok (.iload_n 1, 1) := by decide +kernel
theorem dX7_pass_20 : decode cX7_pass 20 = .ok (.iadd, 1) := by decide +kernel
theorem dX7_pass_21 : decode cX7_pass 21 = .ok (.sipush 9999, 3) := by decide +kernel
theorem dX7_pass_24 : decode cX7_pass 24 = .ok (.if_icmp .le 6, 3) := by decide +kernel
theorem dX7_pass_27 : decode cX7_pass 27 = .ok (.bipush (-3), 2) := by decide +kernel
theorem dX7_pass_29 : decode cX7_pass 29 = .ok (.ireturn, 1) := by decide +kernel
theorem dX7_pass_30 : decode cX7_pass 30 = .ok (.aload_n 0, 1) := by decide +kernel
theorem dX7_pass_31 : decode cX7_pass 31 = .ok (.getfield 12, 3) := by decide +kernel
theorem dX7_pass_34 : decode cX7_pass 34 = .ok (.iload_n 1, 1) := by decide +kernel
theorem dX7_pass_35 : decode cX7_pass 35 = .ok (.invokevirtual 140, 3) := by decide +kernel
theorem dX7_pass_38 : decode cX7_pass 38 = .ok (.aload_n 0, 1) := by decide +kernel
theorem dX7_pass_39 : decode cX7_pass 39 = .ok (.getfield 12, 3) := by decide +kernel
theorem dX7_pass_42 : decode cX7_pass 42 = .ok (.getfield 128, 3) := by decide +kernel
theorem dX7_pass_45 : decode cX7_pass 45 = .ok (.ireturn, 1) := by decide +kernel
theorem sd711_0 (F : zFx p l R s m args meth c D cid kv N0 xs Ls RX7 cX7_pass 2 n0 z0 nF zE d) (IH : zAllM l D cid kv N0 xs Ls d) (hQ : ∀ v h, Qq v h → v = r0 ∧ h = hF) (hn : nF = zN hF) (hz : zE = zZ hF) (hlocks : meth.locks = false) (hr : meth.sig.returnType = (some .int)) : zSoL p l e R s m args below meth c D cid kv N0 xs Ls 2 (MQ below (zQc D cid kv N0 xs Ls ρ0 r0 hF) args s (nF - n0) (zE - z0) (zA N0)) ρ0 n0 z0 nF zE Qq (zCall d) zt711_0 := zc_so (si_iload_n F dX7_pass_0 rfl)
  (zc_so (si_bipush F dX7_pass_1 rfl)
  (zc_so (si_cS  F (IH 744 mm744) mp744 (by decide) tb_251 mi744 mn744 mc744 dX7_pass_3)
  (zc_so (si_ifne F dX7_pass_6 rfl)
  (zc_so (si_bipush F dX7_pass_9 rfl)
  (zc_so (si_rI F hQ hn hz hlocks hr (fun _ _ => rfl) dX7_pass_11)
  (zc_so (si_aload_n F dX7_pass_12 rfl)
  (zc_so (si_getR (k := 0) F rfl inT7 (by decide) (by decide) rfl rfl tb_216 dX7_pass_13)
  (zc_so (si_getI (k := 9) F rfl inT2 (by decide) (by decide) rfl rfl tb_52 dX7_pass_16)
  (zc_so (si_iload_n F dX7_pass_19 rfl)
  (zc_so (si_iadd F dX7_pass_20)
  (zc_so (si_sipush F dX7_pass_21 rfl)
  (zc_so (si_icle F dX7_pass_24 rfl)
  (zc_so (si_bipush F dX7_pass_27 rfl)
  (zc_so (si_rI F hQ hn hz hlocks hr (fun _ _ => rfl) dX7_pass_29)
  (zc_so (si_aload_n F dX7_pass_30 rfl)
  (zc_so (si_getR (k := 0) F rfl inT7 (by decide) (by decide) rfl rfl tb_216 dX7_pass_31)
  (zc_so (si_iload_n F dX7_pass_34 rfl)
  (zc_so (si_cV F (IH 210 mm210) mp210 (by decide) rfl rfl (by decide) tb_308 mi210 ms210 mn210 mc210 dX7_pass_35)
  (zc_so (si_aload_n F dX7_pass_38 rfl)
  (zc_so (si_getR (k := 0) F rfl inT7 (by decide) (by decide) rfl rfl tb_216 dX7_pass_39)
  (zc_so (si_getI (k := 9) F rfl inT2 (by decide) (by decide) rfl rfl tb_52 dX7_pass_42)
  (zc_so (si_rI F hQ hn hz hlocks hr (fun _ _ => rfl) dX7_pass_45)
  (zc_nil)))))))))))))))))))))))
theorem sd711 (F : zFx p l R s m args meth c D cid kv N0 xs Ls RX7 cX7_pass 2 n0 z0 nF zE d) (IH : zAllM l D cid kv N0 xs Ls d) (hQ : ∀ v h, Qq v h → v = r0 ∧ h = hF) (hn : nF = zN hF) (hz : zE = zZ hF) (hlocks : meth.locks = false) (hr : meth.sig.returnType = (some .int)) (pc : Nat) : zSo p l e R s m args below meth c D cid kv N0 xs Ls 2 (MQ below (zQc D cid kv N0 xs Ls ρ0 r0 hF) args s (nF - n0) (zE - z0) (zA N0)) ρ0 n0 z0 nF zE Qq (zCall d) pc (zTab 711 pc) := zc_tab [zt711_0] (zc_cons (sd711_0 F IH hQ hn hz hlocks hr) zc_end)
theorem dX7_on_0 : decode cX7_on 0 = .ok (.iload_n 2, 1) := by decide +kernel
theorem dX7_on_1 : decode cX7_on 1 = .ok (.bipush 10, 2) := by decide +kernel
theorem dX7_on_3 : decode cX7_on 3 = .ok (.if_icmp .lt 18, 3) := by decide +kernel
theorem dX7_on_6 : decode cX7_on 6 = .ok (.aload_n 0, 1) := by decide +kernel
theorem dX7_on_7 : decode cX7_on 7 = .ok (.iload_n 2, 1) := by decide +kernel
theorem dX7_on_8 : decode cX7_on 8 = .ok (.bipush 10, 2) := by decide +kernel
theorem dX7_on_10 : decode cX7_on 10 = .ok (.isub, 1) := by decide +kernel
theorem dX7_on_11 : decode cX7_on 11 = .ok (.invokevirtual 63, 3) := by decide +kernel
theorem dX7_on_14 : decode cX7_on 14 = .ok (.ifCond .eq 7, 3) := by decide +kernel
theorem dX7_on_17 : decode cX7_on 17 = .ok (.iconst 1, 1) := by decide +kernel
theorem dX7_on_18 : decode cX7_on 18 = .ok (.goto 4, 3) := by decide +kernel
theorem dX7_on_21 : decode cX7_on 21 = .ok (.iconst 0, 1) := by decide +kernel
theorem dX7_on_22 : decode cX7_on 22 = .ok (.istore_n 3, 1) := by decide +kernel
theorem dX7_on_23 : decode cX7_on 23 = .ok (.iload_n 2, 1) := by decide +kernel
theorem dX7_on_24 : decode cX7_on 24 = .ok (.bipush 20, 2) := by decide +kernel
theorem dX7_on_26 : decode cX7_on 26 = .ok (.if_icmp .lt 18, 3) := by decide +kernel
theorem dX7_on_29 : decode cX7_on 29 = .ok (.aload_n 0, 1) := by decide +kernel
theorem dX7_on_30 : decode cX7_on 30 = .ok (.iload_n 2, 1) := by decide +kernel
theorem dX7_on_31 : decode cX7_on 31 = .ok (.bipush 20, 2) := by decide +kernel
theorem dX7_on_33 : decode cX7_on 33 = .ok (.isub, 1) := by decide +kernel
theorem dX7_on_34 : decode cX7_on 34 = .ok (.invokevirtual 63, 3) := by decide +kernel
theorem dX7_on_37 : decode cX7_on 37 = .ok (.ifCond .eq 7, 3) := by decide +kernel
theorem dX7_on_40 : decode cX7_on 40 = .ok (.iconst 1, 1) := by decide +kernel
theorem dX7_on_41 : decode cX7_on 41 = .ok (.goto 4, 3) := by decide +kernel
theorem dX7_on_44 : decode cX7_on 44 = .ok (.iconst 0, 1) := by decide +kernel
theorem dX7_on_45 : decode cX7_on 45 = .ok (.istore 4, 2) := by decide +kernel
theorem dX7_on_47 : decode cX7_on 47 = .ok (.iload_n 2, 1) := by decide +kernel
theorem dX7_on_48 : decode cX7_on 48 = .ok (.iconst 1, 1) := by decide +kernel
theorem dX7_on_49 : decode cX7_on 49 = .ok (.invokestatic 55, 3) := by decide +kernel
theorem dX7_on_52 : decode cX7_on 52 = .ok (.ifCond .ne 14, 3) := by decide +kernel
theorem dX7_on_55 : decode cX7_on 55 = .ok (.iload_n 3, 1) := by decide +kernel
theorem dX7_on_56 : decode cX7_on 56 = .ok (.ifCond .ne 10, 3) := by decide +kernel
theorem dX7_on_59 : decode cX7_on 59 = .ok (.iload 4, 2) := by decide +kernel
theorem dX7_on_61 : decode cX7_on 61 = .ok (.ifCond .ne 5, 3) := by decide +kernel
theorem dX7_on_64 : decode cX7_on 64 = .ok (.iconst (-1), 1) := by decide +kernel
theorem dX7_on_65 : decode cX7_on 65 = .ok (.ireturn, 1) := by decide +kernel
theorem dX7_on_66 : decode cX7_on 66 = .ok (.iload_n 1, 1) := by decide +kernel
theorem dX7_on_67 : decode cX7_on 67 = .ok (.bipush 60, 2) := by decide +kernel
theorem dX7_on_69 : decode cX7_on 69 = .ok (.invokestatic 55, 3) := by decide +kernel
theorem dX7_on_72 : decode cX7_on 72 = .ok (.ifCond .ne 6, 3) := by decide +kernel
theorem dX7_on_75 : decode cX7_on 75 = .ok (.bipush (-2), 2) := by decide +kernel
theorem dX7_on_77 : decode cX7_on 77 = .ok (.ireturn, 1) := by decide +kernel
theorem dX7_on_78 : decode cX7_on 78 = .ok (.aload_n 0, 1) := by decide +kernel
theorem dX7_on_79 : decode cX7_on 79 = .ok (.getfield 18, 3) := by decide +kernel
theorem dX7_on_82 : decode cX7_on 82 = .ok (.aload_n 0, 1) := by decide +kernel
theorem dX7_on_83 : decode cX7_on 83 = .ok (.getfield 12, 3) := by decide +kernel
theorem dX7_on_86 : decode cX7_on 86 = .ok (.invokevirtual 144, 3) := by decide +kernel
theorem dX7_on_89 : decode cX7_on 89 = .ok (.aload_n 0, 1) := by decide +kernel
theorem dX7_on_90 : decode cX7_on 90 = .ok (.getfield 18, 3) := by decide +kernel
theorem dX7_on_93 : decode cX7_on 93 = .ok (.iload_n 1, 1) := by decide +kernel
theorem dX7_on_94 : decode cX7_on 94 = .ok (.invokevirtual 140, 3) := by decide +kernel
theorem dX7_on_97 : decode cX7_on 97 = .ok (.iload_n 3, 1) := by decide +kernel
theorem dX7_on_98 : decode cX7_on 98 = .ok (.ifCond .eq 16, 3) := by decide +kernel
theorem dX7_on_101 : decode cX7_on 101 = .ok (.aload_n 0, 1) := by decide +kernel
theorem dX7_on_102 : decode cX7_on 102 = .ok (.getfield 18, 3) := by decide +kernel
theorem dX7_on_105 : decode cX7_on 105 = .ok (.getfield 77, 3) := by decide +kernel
theorem dX7_on_108 : decode cX7_on 108 = .ok (.iload_n 2, 1) := by decide +kernel
theorem dX7_on_109 : decode cX7_on 109 = .ok (.bipush 10, 2) := by decide +kernel
theorem dX7_on_111 : decode cX7_on 111 = .ok (.isub, 1) := by decide +kernel
theorem dX7_on_112 : decode cX7_on 112 = .ok (.iaload, 1) := by decide +kernel
theorem dX7_on_113 : decode cX7_on 113 = .ok (.ireturn, 1) := by decide +kernel
theorem dX7_on_114 : decode cX7_on 114 = .ok (.iload 4, 2) := by decide +kernel
theorem dX7_on_116 : decode cX7_on 116 = .ok (.ifCond .eq 16, 3) := by decide +kernel
theorem dX7_on_119 : decode cX7_on 119 = .ok (.aload_n 0, 1) := by decide +kernel
theorem dX7_on_120 : decode cX7_on 120 = .ok (.getfield 18, 3) := by decide +kernel
theorem dX7_on_123 : decode cX7_on 123 = .ok (.getfield 84, 3) := by decide +kernel
theorem dX7_on_126 : decode cX7_on 126 = .ok (.iload_n 2, 1) := by decide +kernel
theorem dX7_on_127 : decode cX7_on 127 = .ok (.bipush 20, 2) := by decide +kernel
theorem dX7_on_129 : decode cX7_on 129 = .ok (.isub, 1) := by decide +kernel
theorem dX7_on_130 : decode cX7_on 130 = .ok (.iaload, 1) := by decide +kernel
theorem dX7_on_131 : decode cX7_on 131 = .ok (.ireturn, 1) := by decide +kernel
theorem dX7_on_132 : decode cX7_on 132 = .ok (.iload_n 2, 1) := by decide +kernel
theorem dX7_on_133 : decode cX7_on 133 = .ok (.ifCond .ne 13, 3) := by decide +kernel
theorem dX7_on_136 : decode cX7_on 136 = .ok (.aload_n 0, 1) := by decide +kernel
theorem dX7_on_137 : decode cX7_on 137 = .ok (.getfield 18, 3) := by decide +kernel
theorem dX7_on_140 : decode cX7_on 140 = .ok (.getfield 102, 3) := by decide +kernel
theorem dX7_on_143 : decode cX7_on 143 = .ok (.goto 12, 3) := by decide +kernel
theorem dX7_on_146 : decode cX7_on 146 = .ok (.aload_n 0, 1) := by decide +kernel
theorem dX7_on_147 : decode cX7_on 147 = .ok (.getfield 18, 3) := by decide +kernel
theorem dX7_on_150 : decode cX7_on 150 = .ok (.bipush 10, 2) := by decide +kernel
theorem dX7_on_152 : decode cX7_on 152 = .ok (.invokevirtual 134, 3) := by decide +kernel
theorem dX7_on_155 : decode cX7_on 155 = .ok (.ireturn, 1) := by decide +kernel
theorem sd712_0 (F : zFx p l R s m args meth c D cid kv N0 xs Ls RX7 cX7_on 5 n0 z0 nF zE d) (IH : zAllM l D cid kv N0 xs Ls d) (hQ : ∀ v h, Qq v h → v = r0 ∧ h = hF) (hn : nF = zN hF) (hz : zE = zZ hF) (hlocks : meth.locks = false) (hr : meth.sig.returnType = (some .int)) : zSoL p l e R s m args below meth c D cid kv N0 xs Ls 5 (MQ below (zQc D cid kv N0 xs Ls ρ0 r0 hF) args s (nF - n0) (zE - z0) (zA N0)) ρ0 n0 z0 nF zE Qq (zCall d) zt712_0 := zc_so (si_iload_n F dX7_on_0 rfl)
  (zc_so (si_bipush F dX7_on_1 rfl)
  (zc_so (si_iclt F dX7_on_3 rfl)
  (zc_so (si_aload_n F dX7_on_6 rfl)
  (zc_so (si_iload_n F dX7_on_7 rfl)
  (zc_so (si_bipush F dX7_on_8 rfl)
  (zc_so (si_isub F dX7_on_10)
  (zc_so (si_cV F (IH 743 mm743) mp743 (by decide) rfl rfl (by decide) tb_266 mi743 ms743 mn743 mc743 dX7_on_11)
  (zc_so (si_ifeq F dX7_on_14 rfl)
  (zc_so (si_iconst F dX7_on_17 rfl)
  (zc_so (si_goto F dX7_on_18 rfl)
  (zc_so (si_iconst F dX7_on_21 rfl)
  (zc_so (si_istore_n F dX7_on_22 rfl)
  (zc_so (si_iload_n F dX7_on_23 rfl)
  (zc_so (si_bipush F dX7_on_24 rfl)
  (zc_so (si_iclt F dX7_on_26 rfl)
  (zc_so (si_aload_n F dX7_on_29 rfl)
  (zc_so (si_iload_n F dX7_on_30 rfl)
  (zc_so (si_bipush F dX7_on_31 rfl)
  (zc_so (si_isub F dX7_on_33)
  (zc_so (si_cV F (IH 743 mm743) mp743 (by decide) rfl rfl (by decide) tb_266 mi743 ms743 mn743 mc743 dX7_on_34)
  (zc_so (si_ifeq F dX7_on_37 rfl)
  (zc_so (si_iconst F dX7_on_40 rfl)
  (zc_so (si_goto F dX7_on_41 rfl)
  (zc_so (si_iconst F dX7_on_44 rfl)
  (zc_so (si_istore F dX7_on_45)
  (zc_so (si_iload_n F dX7_on_47 rfl)
  (zc_so (si_iconst F dX7_on_48 rfl)
  (zc_so (si_cS  F (IH 744 mm744) mp744 (by decide) tb_251 mi744 mn744 mc744 dX7_on_49)
  (zc_so (si_ifne F dX7_on_52 rfl)
  (zc_so (si_iload_n F dX7_on_55 rfl)
  (zc_so (si_ifne F dX7_on_56 rfl)
  (zc_so (si_iload F dX7_on_59)
  (zc_so (si_ifne F dX7_on_61 rfl)
  (zc_nil))))))))))))))))))))))))))))))))))
theorem sd712_1 (F : zFx p l R s m args meth c D cid kv N0 xs Ls RX7 cX7_on 5 n0 z0 nF zE d) (IH : zAllM l D cid kv N0 xs Ls d) (hQ : ∀ v h, Qq v h → v = r0 ∧ h = hF) (hn : nF = zN hF) (hz : zE = zZ hF) (hlocks : meth.locks = false) (hr : meth.sig.returnType = (some .int)) : zSoL p l e R s m args below meth c D cid kv N0 xs Ls 5 (MQ below (zQc D cid kv N0 xs Ls ρ0 r0 hF) args s (nF - n0) (zE - z0) (zA N0)) ρ0 n0 z0 nF zE Qq (zCall d) zt712_1 := zc_so (si_iconst F dX7_on_64 rfl)
  (zc_so (si_rI F hQ hn hz hlocks hr (fun _ _ => rfl) dX7_on_65)
  (zc_so (si_iload_n F dX7_on_66 rfl)
  (zc_so (si_bipush F dX7_on_67 rfl)
  (zc_so (si_cS  F (IH 744 mm744) mp744 (by decide) tb_251 mi744 mn744 mc744 dX7_on_69)
  (zc_so (si_ifne F dX7_on_72 rfl)
  (zc_so (si_bipush F dX7_on_75 rfl)
  (zc_so (si_rI F hQ hn hz hlocks hr (fun _ _ => rfl) dX7_on_77)
  (zc_so (si_aload_n F dX7_on_78 rfl)
  (zc_so (si_getR (k := 1) F rfl inT7 (by decide) (by decide) rfl rfl tb_217 dX7_on_79)
  (zc_so (si_aload_n F dX7_on_82 rfl)
  (zc_so (si_getR (k := 0) F rfl inT7 (by decide) (by decide) rfl rfl tb_216 dX7_on_83)
  (zc_so (si_cV F (IH 202 mm202) mp202 (by decide) rfl rfl (by decide) tb_304 mi202 ms202 mn202 mc202 dX7_on_86)
  (zc_so (si_aload_n F dX7_on_89 rfl)
  (zc_so (si_getR (k := 1) F rfl inT7 (by decide) (by decide) rfl rfl tb_217 dX7_on_90)
  (zc_so (si_iload_n F dX7_on_93 rfl)
  (zc_so (si_cV F (IH 210 mm210) mp210 (by decide) rfl rfl (by decide) tb_308 mi210 ms210 mn210 mc210 dX7_on_94)
  (zc_so (si_iload_n F dX7_on_97 rfl)
  (zc_so (si_ifeq F dX7_on_98 rfl)
  (zc_so (si_aload_n F dX7_on_101 rfl)
  (zc_so (si_getR (k := 1) F rfl inT7 (by decide) (by decide) rfl rfl tb_217 dX7_on_102)
  (zc_so (si_getR (k := 3) F rfl inT2 (by decide) (by decide) rfl rfl tb_40 dX7_on_105)
  (zc_so (si_iload_n F dX7_on_108 rfl)
  (zc_so (si_bipush F dX7_on_109 rfl)
  (zc_so (si_isub F dX7_on_111)
  (zc_so (si_iaload F dX7_on_112)
  (zc_so (si_rI F hQ hn hz hlocks hr (fun _ _ => rfl) dX7_on_113)
  (zc_so (si_iload F dX7_on_114)
  (zc_so (si_ifeq F dX7_on_116 rfl)
  (zc_so (si_aload_n F dX7_on_119 rfl)
  (zc_so (si_getR (k := 1) F rfl inT7 (by decide) (by decide) rfl rfl tb_217 dX7_on_120)
  (zc_so (si_getR (k := 4) F rfl inT2 (by decide) (by decide) rfl rfl tb_42 dX7_on_123)
  (zc_so (si_iload_n F dX7_on_126 rfl)
  (zc_so (si_bipush F dX7_on_127 rfl)
  (zc_nil))))))))))))))))))))))))))))))))))
theorem sd712_2 (F : zFx p l R s m args meth c D cid kv N0 xs Ls RX7 cX7_on 5 n0 z0 nF zE d) (IH : zAllM l D cid kv N0 xs Ls d) (hQ : ∀ v h, Qq v h → v = r0 ∧ h = hF) (hn : nF = zN hF) (hz : zE = zZ hF) (hlocks : meth.locks = false) (hr : meth.sig.returnType = (some .int)) : zSoL p l e R s m args below meth c D cid kv N0 xs Ls 5 (MQ below (zQc D cid kv N0 xs Ls ρ0 r0 hF) args s (nF - n0) (zE - z0) (zA N0)) ρ0 n0 z0 nF zE Qq (zCall d) zt712_2 := zc_so (si_isub F dX7_on_129)
  (zc_so (si_iaload F dX7_on_130)
  (zc_so (si_rI F hQ hn hz hlocks hr (fun _ _ => rfl) dX7_on_131)
  (zc_so (si_iload_n F dX7_on_132 rfl)
  (zc_so (si_ifne F dX7_on_133 rfl)
  (zc_so (si_aload_n F dX7_on_136 rfl)
  (zc_so (si_getR (k := 1) F rfl inT7 (by decide) (by decide) rfl rfl tb_217 dX7_on_137)
  (zc_so (si_getI (k := 8) F rfl inT2 (by decide) (by decide) rfl rfl tb_50 dX7_on_140)
  (zc_so (si_goto F dX7_on_143 rfl)
  (zc_so (si_aload_n F dX7_on_146 rfl)
  (zc_so (si_getR (k := 1) F rfl inT7 (by decide) (by decide) rfl rfl tb_217 dX7_on_147)
  (zc_so (si_bipush F dX7_on_150 rfl)
  (zc_so (si_cV F (IH 208 mm208) mp208 (by decide) rfl rfl (by decide) tb_469 mi208 ms208 mn208 mc208 dX7_on_152)
  (zc_so (si_rI F hQ hn hz hlocks hr (fun _ _ => rfl) dX7_on_155)
  (zc_nil))))))))))))))
theorem sd712 (F : zFx p l R s m args meth c D cid kv N0 xs Ls RX7 cX7_on 5 n0 z0 nF zE d) (IH : zAllM l D cid kv N0 xs Ls d) (hQ : ∀ v h, Qq v h → v = r0 ∧ h = hF) (hn : nF = zN hF) (hz : zE = zZ hF) (hlocks : meth.locks = false) (hr : meth.sig.returnType = (some .int)) (pc : Nat) : zSo p l e R s m args below meth c D cid kv N0 xs Ls 5 (MQ below (zQc D cid kv N0 xs Ls ρ0 r0 hF) args s (nF - n0) (zE - z0) (zA N0)) ρ0 n0 z0 nF zE Qq (zCall d) pc (zTab 712 pc) := zc_tab [zt712_0, zt712_1, zt712_2] (zc_cons (sd712_0 F IH hQ hn hz hlocks hr) (zc_cons (sd712_1 F IH hQ hn hz hlocks hr) (zc_cons (sd712_2 F IH hQ hn hz hlocks hr) zc_end)))
theorem dX7_daysToCity_0 : decode cX7_daysToCity 0 = .ok (.aload_n 0, 1) := by decide +kernel
theorem dX7_daysToCity_1 : decode cX7_daysToCity 1 = .ok (.getfield 18, 3) := by decide +kernel
theorem dX7_daysToCity_4 : decode cX7_daysToCity 4 = .ok (.aload_n 0, 1) := by decide +kernel
theorem dX7_daysToCity_5 : decode cX7_daysToCity 5 = .ok (.getfield 12, 3) := by decide +kernel
theorem dX7_daysToCity_8 : decode cX7_daysToCity 8 = .ok (.invokevirtual 144, 3) := by decide +kernel
theorem dX7_daysToCity_11 : decode cX7_daysToCity 11 = .ok (.iconst 0, 1) := by decide +kernel
theorem dX7_daysToCity_12 : decode cX7_daysToCity 12 = .ok (.istore_n 2, 1) := by decide +kernel
theorem dX7_daysToCity_13 : decode cX7_daysToCity 13 = .ok (.iload_n 2, 1) := by decide +kernel
theorem dX7_daysToCity_14 : decode cX7_daysToCity 14 = .ok (.bipush 60, 2) := by decide +kernel
theorem dX7_daysToCity_16 : decode cX7_daysToCity 16 = .ok (.if_icmp .gt 33, 3) := by decide +kernel
theorem dX7_daysToCity_19 : decode cX7_daysToCity 19 = .ok (.aload_n 0, 1) := by decide +kernel
theorem dX7_daysToCity_20 : decode cX7_daysToCity 20 = .ok (.getfield 18, 3) := by decide +kernel
theorem dX7_daysToCity_23 : decode cX7_daysToCity 23 = .ok (.getfield 77, 3) := by decide +kernel
theorem dX7_daysToCity_26 : decode cX7_daysToCity 26 = .ok (.iload_n 1, 1) := by decide +kernel
theorem dX7_daysToCity_27 : decode cX7_daysToCity 27 = .ok (.iaload, 1) := by decide +kernel
theorem dX7_daysToCity_28 : decode cX7_daysToCity 28 = .ok (.bipush 10, 2) := by decide +kernel
theorem dX7_daysToCity_30 : decode cX7_daysToCity 30 = .ok (.if_icmp .ne 5, 3) := by decide +kernel
theorem dX7_daysToCity_33 : decode cX7_daysToCity 33 = .ok (.iload_n 2, 1) := by decide +kernel
theorem dX7_daysToCity_34 : decode cX7_daysToCity 34 = .ok (.ireturn, 1) := by decide +kernel
theorem dX7_daysToCity_35 : decode cX7_daysToCity 35 = .ok (.aload_n 0, 1) := by decide +kernel
theorem dX7_daysToCity_36 : decode cX7_daysToCity 36 = .ok (.getfield 18, 3) := by decide +kernel
theorem dX7_daysToCity_39 : decode cX7_daysToCity 39 = .ok (.iconst 1, 1) := by decide +kernel
theorem dX7_daysToCity_40 : decode cX7_daysToCity 40 = .ok (.invokevirtual 140, 3) := by decide +kernel
theorem dX7_daysToCity_43 : decode cX7_daysToCity 43 = .ok (.iinc 2 1, 3) := by decide +kernel
theorem dX7_daysToCity_46 : decode cX7_daysToCity 46 = .ok (.goto (-33), 3) := by decide +kernel
theorem dX7_daysToCity_49 : decode cX7_daysToCity 49 = .ok (.bipush (-5), 2) := by decide +kernel
theorem dX7_daysToCity_51 : decode cX7_daysToCity 51 = .ok (.ireturn, 1) := by decide +kernel
theorem sd713_0 (F : zFx p l R s m args meth c D cid kv N0 xs Ls RX7 cX7_daysToCity 3 n0 z0 nF zE d) (IH : zAllM l D cid kv N0 xs Ls d) (hQ : ∀ v h, Qq v h → v = r0 ∧ h = hF) (hn : nF = zN hF) (hz : zE = zZ hF) (hlocks : meth.locks = false) (hr : meth.sig.returnType = (some .int)) : zSoL p l e R s m args below meth c D cid kv N0 xs Ls 3 (MQ below (zQc D cid kv N0 xs Ls ρ0 r0 hF) args s (nF - n0) (zE - z0) (zA N0)) ρ0 n0 z0 nF zE Qq (zCall d) zt713_0 := zc_so (si_aload_n F dX7_daysToCity_0 rfl)
  (zc_so (si_getR (k := 1) F rfl inT7 (by decide) (by decide) rfl rfl tb_217 dX7_daysToCity_1)
  (zc_so (si_aload_n F dX7_daysToCity_4 rfl)
  (zc_so (si_getR (k := 0) F rfl inT7 (by decide) (by decide) rfl rfl tb_216 dX7_daysToCity_5)
  (zc_so (si_cV F (IH 202 mm202) mp202 (by decide) rfl rfl (by decide) tb_304 mi202 ms202 mn202 mc202 dX7_daysToCity_8)
  (zc_so (si_iconst F dX7_daysToCity_11 rfl)
  (zc_so (si_istore_n F dX7_daysToCity_12 rfl)
  (zc_so (si_iload_n F dX7_daysToCity_13 rfl)
  (zc_so (si_bipush F dX7_daysToCity_14 rfl)
  (zc_so (si_icgt F dX7_daysToCity_16 rfl)
  (zc_so (si_aload_n F dX7_daysToCity_19 rfl)
  (zc_so (si_getR (k := 1) F rfl inT7 (by decide) (by decide) rfl rfl tb_217 dX7_daysToCity_20)
  (zc_so (si_getR (k := 3) F rfl inT2 (by decide) (by decide) rfl rfl tb_40 dX7_daysToCity_23)
  (zc_so (si_iload_n F dX7_daysToCity_26 rfl)
  (zc_so (si_iaload F dX7_daysToCity_27)
  (zc_so (si_bipush F dX7_daysToCity_28 rfl)
  (zc_so (si_icne F dX7_daysToCity_30 rfl)
  (zc_so (si_iload_n F dX7_daysToCity_33 rfl)
  (zc_so (si_rI F hQ hn hz hlocks hr (fun _ _ => rfl) dX7_daysToCity_34)
  (zc_so (si_aload_n F dX7_daysToCity_35 rfl)
  (zc_so (si_getR (k := 1) F rfl inT7 (by decide) (by decide) rfl rfl tb_217 dX7_daysToCity_36)
  (zc_so (si_iconst F dX7_daysToCity_39 rfl)
  (zc_so (si_cV F (IH 210 mm210) mp210 (by decide) rfl rfl (by decide) tb_308 mi210 ms210 mn210 mc210 dX7_daysToCity_40)
  (zc_so (si_iinc F dX7_daysToCity_43 rfl)
  (zc_so (si_goto F dX7_daysToCity_46 rfl)
  (zc_so (si_bipush F dX7_daysToCity_49 rfl)
  (zc_so (si_rI F hQ hn hz hlocks hr (fun _ _ => rfl) dX7_daysToCity_51)
  (zc_nil)))))))))))))))))))))))))))
theorem sd713 (F : zFx p l R s m args meth c D cid kv N0 xs Ls RX7 cX7_daysToCity 3 n0 z0 nF zE d) (IH : zAllM l D cid kv N0 xs Ls d) (hQ : ∀ v h, Qq v h → v = r0 ∧ h = hF) (hn : nF = zN hF) (hz : zE = zZ hF) (hlocks : meth.locks = false) (hr : meth.sig.returnType = (some .int)) (pc : Nat) : zSo p l e R s m args below meth c D cid kv N0 xs Ls 3 (MQ below (zQc D cid kv N0 xs Ls ρ0 r0 hF) args s (nF - n0) (zE - z0) (zA N0)) ρ0 n0 z0 nF zE Qq (zCall d) pc (zTab 713 pc) := zc_tab [zt713_0] (zc_cons (sd713_0 F IH hQ hn hz hlocks hr) zc_end)
theorem dX7_pays_0 : decode cX7_pays 0 = .ok (.iload_n 2, 1) := by decide +kernel
theorem dX7_pays_1 : decode cX7_pays 1 = .ok (.iconst 3, 1) := by decide +kernel
theorem dX7_pays_2 : decode cX7_pays 2 = .ok (.invokestatic 55, 3) := by decide +kernel
theorem dX7_pays_5 : decode cX7_pays 5 = .ok (.ifCond .ne 5, 3) := by decide +kernel
theorem dX7_pays_8 : decode cX7_pays 8 = .ok (.iconst (-1), 1) := by decide +kernel
theorem dX7_pays_9 : decode cX7_pays 9 = .ok (.ireturn, 1) := by decide +kernel
theorem dX7_pays_10 : decode cX7_pays 10 = .ok (.iload_n 1, 1) := by decide +kernel
theorem dX7_pays_11 : decode cX7_pays 11 = .ok (.iconst 1, 1) := by decide +kernel
theorem dX7_pays_12 : decode cX7_pays 12 = .ok (.if_icmp .lt 9, 3) := by decide +kernel
theorem dX7_pays_15 : decode cX7_pays 15 = .ok (.iload_n 1, 1) := by decide +kernel
theorem dX7_pays_16 : decode cX7_pays 16 = .ok (.bipush 20, 2) := by decide +kernel
theorem dX7_pays_18 : decode cX7_pays 18 = .ok (.if_icmp .le 6, 3) := by decide +kernel
theorem dX7_pays_21 : decode cX7_pays 21 = .ok (.bipush (-2), 2) := by decide +kernel
theorem dX7_pays_23 : decode cX7_pays 23 = .ok (.ireturn, 1) := by decide +kernel
theorem dX7_pays_24 : decode cX7_pays 24 = .ok (.iload_n 2, 1) := by decide +kernel
theorem dX7_pays_25 : decode cX7_pays 25 = .ok (.tableswitch 50 0 2 #[27, 33, 44], 27) := by decide +kernel
theorem dX7_pays_52 : decode cX7_pays 52 = .ok (.aload_n 0, 1) := by decide +kernel
theorem dX7_pays_53 : decode cX7_pays 53 = .ok (.iload_n 1, 1) := by decide +kernel
theorem dX7_pays_54 : decode cX7_pays 54 = .ok (.invokevirtual 148, 3) := by decide +kernel
theorem dX7_pays_57 : decode cX7_pays 57 = .ok (.ireturn, 1) := by decide +kernel
theorem dX7_pays_58 : decode cX7_pays 58 = .ok (.aload_n 0, 1) := by decide +kernel
theorem dX7_pays_59 : decode cX7_pays 59 = .ok (.aload_n 0, 1) := by decide +kernel
theorem dX7_pays_60 : decode cX7_pays 60 = .ok (.iload_n 1, 1) := by decide +kernel
theorem dX7_pays_61 : decode cX7_pays 61 = .ok (.invokevirtual 148, 3) := by decide +kernel
theorem dX7_pays_64 : decode cX7_pays 64 = .ok (.iload_n 1, 1) := by decide +kernel
theorem dX7_pays_65 : decode cX7_pays 65 = .ok (.invokevirtual 151, 3) := by decide +kernel
theorem dX7_pays_68 : decode cX7_pays 68 = .ok (.ireturn, 1) := by decide +kernel
theorem dX7_pays_69 : decode cX7_pays 69 = .ok (.aload_n 0, 1) := by decide +kernel
theorem dX7_pays_70 : decode cX7_pays 70 = .ok (.iload_n 1, 1) := by decide +kernel
theorem dX7_pays_71 : decode cX7_pays 71 = .ok (.invokevirtual 155, 3) := by decide +kernel
theorem dX7_pays_74 : decode cX7_pays 74 = .ok (.ireturn, 1) := by decide +kernel
theorem dX7_pays_75 : decode cX7_pays 75 = .ok (.aload_n 0, 1) := by decide +kernel
theorem dX7_pays_76 : decode cX7_pays 76 = .ok (.iload_n 1, 1) := by decide +kernel
theorem dX7_pays_77 : decode cX7_pays 77 = .ok (.invokevirtual 158, 3) := by decide +kernel
theorem dX7_pays_80 : decode cX7_pays 80 = .ok (.ireturn, 1) := by decide +kernel
theorem sd714_0 (F : zFx p l R s m args meth c D cid kv N0 xs Ls RX7 cX7_pays 3 n0 z0 nF zE d) (IH : zAllM l D cid kv N0 xs Ls d) (hQ : ∀ v h, Qq v h → v = r0 ∧ h = hF) (hn : nF = zN hF) (hz : zE = zZ hF) (hlocks : meth.locks = false) (hr : meth.sig.returnType = (some .int)) : zSoL p l e R s m args below meth c D cid kv N0 xs Ls 3 (MQ below (zQc D cid kv N0 xs Ls ρ0 r0 hF) args s (nF - n0) (zE - z0) (zA N0)) ρ0 n0 z0 nF zE Qq (zCall d) zt714_0 := zc_so (si_iload_n F dX7_pays_0 rfl)
  (zc_so (si_iconst F dX7_pays_1 rfl)
  (zc_so (si_cS  F (IH 744 mm744) mp744 (by decide) tb_251 mi744 mn744 mc744 dX7_pays_2)
  (zc_so (si_ifne F dX7_pays_5 rfl)
  (zc_so (si_iconst F dX7_pays_8 rfl)
  (zc_so (si_rI F hQ hn hz hlocks hr (fun _ _ => rfl) dX7_pays_9)
  (zc_so (si_iload_n F dX7_pays_10 rfl)
  (zc_so (si_iconst F dX7_pays_11 rfl)
  (zc_so (si_iclt F dX7_pays_12 rfl)
  (zc_so (si_iload_n F dX7_pays_15 rfl)
  (zc_so (si_bipush F dX7_pays_16 rfl)
  (zc_so (si_icle F dX7_pays_18 rfl)
  (zc_so (si_bipush F dX7_pays_21 rfl)
  (zc_so (si_rI F hQ hn hz hlocks hr (fun _ _ => rfl) dX7_pays_23)
  (zc_so (si_iload_n F dX7_pays_24 rfl)
  (zc_so (so_swT F.1.1 F.1.2.1 dX7_pays_25 rfl rfl ⟨rfl, rfl, ⟨rfl, rfl, ⟨rfl, rfl, trivial⟩⟩⟩)
  (zc_so (si_aload_n F dX7_pays_52 rfl)
  (zc_so (si_iload_n F dX7_pays_53 rfl)
  (zc_so (si_cV F (IH 715 mm715) mp715 (by decide) rfl rfl (by decide) tb_486 mi715 ms715 mn715 mc715 dX7_pays_54)
  (zc_so (si_rI F hQ hn hz hlocks hr (fun _ _ => rfl) dX7_pays_57)
  (zc_so (si_aload_n F dX7_pays_58 rfl)
  (zc_so (si_aload_n F dX7_pays_59 rfl)
  (zc_so (si_iload_n F dX7_pays_60 rfl)
  (zc_so (si_cV F (IH 715 mm715) mp715 (by decide) rfl rfl (by decide) tb_486 mi715 ms715 mn715 mc715 dX7_pays_61)
  (zc_nil))))))))))))))))))))))))
theorem sd714_1 (F : zFx p l R s m args meth c D cid kv N0 xs Ls RX7 cX7_pays 3 n0 z0 nF zE d) (IH : zAllM l D cid kv N0 xs Ls d) (hQ : ∀ v h, Qq v h → v = r0 ∧ h = hF) (hn : nF = zN hF) (hz : zE = zZ hF) (hlocks : meth.locks = false) (hr : meth.sig.returnType = (some .int)) : zSoL p l e R s m args below meth c D cid kv N0 xs Ls 3 (MQ below (zQc D cid kv N0 xs Ls ρ0 r0 hF) args s (nF - n0) (zE - z0) (zA N0)) ρ0 n0 z0 nF zE Qq (zCall d) zt714_1 := zc_so (si_iload_n F dX7_pays_64 rfl)
  (zc_so (si_cV F (IH 716 mm716) mp716 (by decide) rfl rfl (by decide) tb_490 mi716 ms716 mn716 mc716 dX7_pays_65)
  (zc_so (si_rI F hQ hn hz hlocks hr (fun _ _ => rfl) dX7_pays_68)
  (zc_so (si_aload_n F dX7_pays_69 rfl)
  (zc_so (si_iload_n F dX7_pays_70 rfl)
  (zc_so (si_cV F (IH 717 mm717) mp717 (by decide) rfl rfl (by decide) tb_500 mi717 ms717 mn717 mc717 dX7_pays_71)
  (zc_so (si_rI F hQ hn hz hlocks hr (fun _ _ => rfl) dX7_pays_74)
  (zc_so (si_aload_n F dX7_pays_75 rfl)
  (zc_so (si_iload_n F dX7_pays_76 rfl)
  (zc_so (si_cV F (IH 718 mm718) mp718 (by decide) rfl rfl (by decide) tb_504 mi718 ms718 mn718 mc718 dX7_pays_77)
  (zc_so (si_rI F hQ hn hz hlocks hr (fun _ _ => rfl) dX7_pays_80)
  (zc_nil)))))))))))
theorem sd714 (F : zFx p l R s m args meth c D cid kv N0 xs Ls RX7 cX7_pays 3 n0 z0 nF zE d) (IH : zAllM l D cid kv N0 xs Ls d) (hQ : ∀ v h, Qq v h → v = r0 ∧ h = hF) (hn : nF = zN hF) (hz : zE = zZ hF) (hlocks : meth.locks = false) (hr : meth.sig.returnType = (some .int)) (pc : Nat) : zSo p l e R s m args below meth c D cid kv N0 xs Ls 3 (MQ below (zQc D cid kv N0 xs Ls ρ0 r0 hF) args s (nF - n0) (zE - z0) (zA N0)) ρ0 n0 z0 nF zE Qq (zCall d) pc (zTab 714 pc) := zc_tab [zt714_0, zt714_1] (zc_cons (sd714_0 F IH hQ hn hz hlocks hr) (zc_cons (sd714_1 F IH hQ hn hz hlocks hr) zc_end))
theorem dX7_cheapestPay_0 : decode cX7_cheapestPay 0 = .ok (.iconst 0, 1) := by decide +kernel
theorem dX7_cheapestPay_1 : decode cX7_cheapestPay 1 = .ok (.istore_n 2, 1) := by decide +kernel
theorem dX7_cheapestPay_2 : decode cX7_cheapestPay 2 = .ok (.bipush 7, 2) := by decide +kernel
theorem dX7_cheapestPay_4 : decode cX7_cheapestPay 4 = .ok (.istore_n 3, 1) := by decide +kernel
theorem dX7_cheapestPay_5 : decode cX7_cheapestPay 5 = .ok (.iconst 0, 1) := by decide +kernel
theorem dX7_cheapestPay_6 : decode cX7_cheapestPay 6 = .ok (.istore 4, 2) := by decide +kernel
theorem dX7_cheapestPay_8 : decode cX7_cheapestPay 8 = .ok (.iload 4, 2) := by decide +kernel
theorem dX7_cheapestPay_10 : decode cX7_cheapestPay 10 = .ok (.bipush 49, 2) := by decide +kernel
theorem dX7_cheapestPay_12 : decode cX7_cheapestPay 12 = .ok (.if_icmp .gt 30, 3) := by decide +kernel
theorem dX7_cheapestPay_15 : decode cX7_cheapestPay 15 = .ok (.aload_n 0, 1) := by decide +kernel
theorem dX7_cheapestPay_16 : decode cX7_cheapestPay 16 = .ok (.iload 4, 2) := by decide +kernel
theorem dX7_cheapestPay_18 : decode cX7_cheapestPay 18 = .ok (.iload_n 1, 1) := by decide +kernel
theorem dX7_cheapestPay_19 : decode cX7_cheapestPay 19 = .ok (.invokevirtual 151, 3) := by decide +kernel
theorem dX7_cheapestPay_22 : decode cX7_cheapestPay 22 = .ok (.istore 5, 2) := by decide +kernel
theorem dX7_cheapestPay_24 : decode cX7_cheapestPay 24 = .ok (.iload 5, 2) := by decide +kernel
theorem dX7_cheapestPay_26 : decode cX7_cheapestPay 26 = .ok (.iload_n 3, 1) := by decide +kernel
theorem dX7_cheapestPay_27 : decode cX7_cheapestPay 27 = .ok (.if_icmp .ge 9, 3) := by decide +kernel
theorem dX7_cheapestPay_30 : decode cX7_cheapestPay 30 = .ok (.iload 5, 2) := by decide +kernel
theorem dX7_cheapestPay_32 : decode cX7_cheapestPay 32 = .ok (.istore_n 3, 1) := by decide +kernel
theorem dX7_cheapestPay_33 : decode cX7_cheapestPay 33 = .ok (.iload 4, 2) := by decide +kernel
theorem dX7_cheapestPay_35 : decode cX7_cheapestPay 35 = .ok (.istore_n 2, 1) := by decide +kernel
theorem dX7_cheapestPay_36 : decode cX7_cheapestPay 36 = .ok (.iinc 4 1, 3) := by decide +kernel
theorem dX7_cheapestPay_39 : decode cX7_cheapestPay 39 = .ok (.goto (-31), 3) := by decide +kernel
theorem dX7_cheapestPay_42 : decode cX7_cheapestPay 42 = .ok (.iload_n 2, 1) := by decide +kernel
theorem dX7_cheapestPay_43 : decode cX7_cheapestPay 43 = .ok (.ireturn, 1) := by decide +kernel
theorem sd715_0 (F : zFx p l R s m args meth c D cid kv N0 xs Ls RX7 cX7_cheapestPay 6 n0 z0 nF zE d) (IH : zAllM l D cid kv N0 xs Ls d) (hQ : ∀ v h, Qq v h → v = r0 ∧ h = hF) (hn : nF = zN hF) (hz : zE = zZ hF) (hlocks : meth.locks = false) (hr : meth.sig.returnType = (some .int)) : zSoL p l e R s m args below meth c D cid kv N0 xs Ls 6 (MQ below (zQc D cid kv N0 xs Ls ρ0 r0 hF) args s (nF - n0) (zE - z0) (zA N0)) ρ0 n0 z0 nF zE Qq (zCall d) zt715_0 := zc_so (si_iconst F dX7_cheapestPay_0 rfl)
  (zc_so (si_istore_n F dX7_cheapestPay_1 rfl)
  (zc_so (si_bipush F dX7_cheapestPay_2 rfl)
  (zc_so (si_istore_n F dX7_cheapestPay_4 rfl)
  (zc_so (si_iconst F dX7_cheapestPay_5 rfl)
  (zc_so (si_istore F dX7_cheapestPay_6)
  (zc_so (si_iload F dX7_cheapestPay_8)
  (zc_so (si_bipush F dX7_cheapestPay_10 rfl)
  (zc_so (si_icgt F dX7_cheapestPay_12 rfl)
  (zc_so (si_aload_n F dX7_cheapestPay_15 rfl)
  (zc_so (si_iload F dX7_cheapestPay_16)
  (zc_so (si_iload_n F dX7_cheapestPay_18 rfl)
  (zc_so (si_cV F (IH 716 mm716) mp716 (by decide) rfl rfl (by decide) tb_490 mi716 ms716 mn716 mc716 dX7_cheapestPay_19)
  (zc_so (si_istore F dX7_cheapestPay_22)
  (zc_so (si_iload F dX7_cheapestPay_24)
  (zc_so (si_iload_n F dX7_cheapestPay_26 rfl)
  (zc_so (si_icge F dX7_cheapestPay_27 rfl)
  (zc_so (si_iload F dX7_cheapestPay_30)
  (zc_so (si_istore_n F dX7_cheapestPay_32 rfl)
  (zc_so (si_iload F dX7_cheapestPay_33)
  (zc_so (si_istore_n F dX7_cheapestPay_35 rfl)
  (zc_so (si_iinc F dX7_cheapestPay_36 rfl)
  (zc_so (si_goto F dX7_cheapestPay_39 rfl)
  (zc_so (si_iload_n F dX7_cheapestPay_42 rfl)
  (zc_so (si_rI F hQ hn hz hlocks hr (fun _ _ => rfl) dX7_cheapestPay_43)
  (zc_nil)))))))))))))))))))))))))
theorem sd715 (F : zFx p l R s m args meth c D cid kv N0 xs Ls RX7 cX7_cheapestPay 6 n0 z0 nF zE d) (IH : zAllM l D cid kv N0 xs Ls d) (hQ : ∀ v h, Qq v h → v = r0 ∧ h = hF) (hn : nF = zN hF) (hz : zE = zZ hF) (hlocks : meth.locks = false) (hr : meth.sig.returnType = (some .int)) (pc : Nat) : zSo p l e R s m args below meth c D cid kv N0 xs Ls 6 (MQ below (zQc D cid kv N0 xs Ls ρ0 r0 hF) args s (nF - n0) (zE - z0) (zA N0)) ρ0 n0 z0 nF zE Qq (zCall d) pc (zTab 715 pc) := zc_tab [zt715_0] (zc_cons (sd715_0 F IH hQ hn hz hlocks hr) zc_end)
theorem dX7_inCityBy_0 : decode cX7_inCityBy 0 = .ok (.aload_n 0, 1) := by decide +kernel
theorem dX7_inCityBy_1 : decode cX7_inCityBy 1 = .ok (.getfield 18, 3) := by decide +kernel
theorem dX7_inCityBy_4 : decode cX7_inCityBy 4 = .ok (.aload_n 0, 1) := by decide +kernel
theorem dX7_inCityBy_5 : decode cX7_inCityBy 5 = .ok (.getfield 12, 3) := by decide +kernel
theorem dX7_inCityBy_8 : decode cX7_inCityBy 8 = .ok (.invokevirtual 144, 3) := by decide +kernel
theorem dX7_inCityBy_11 : decode cX7_inCityBy 11 = .ok (.aload_n 0, 1) := by decide +kernel
theorem dX7_inCityBy_12 : decode cX7_inCityBy 12 = .ok (.getfield 18, 3) := by decide +kernel
theorem dX7_inCityBy_15 : decode cX7_inCityBy 15 = .ok (.iload_n 1, 1) := by decide +kernel
theorem dX7_inCityBy_16 : decode cX7_inCityBy 16 = .ok (.putfield 161, 3) := by decide +kernel
theorem dX7_inCityBy_19 : decode cX7_inCityBy 19 = .ok (.aload_n 0, 1) := by decide +kernel
theorem dX7_inCityBy_20 : decode cX7_inCityBy 20 = .ok (.getfield 18, 3) := by decide +kernel
theorem dX7_inCityBy_23 : decode cX7_inCityBy 23 = .ok (.iload_n 2, 1) := by decide +kernel
theorem dX7_inCityBy_24 : decode cX7_inCityBy 24 = .ok (.invokevirtual 140, 3) := by decide +kernel
theorem dX7_inCityBy_27 : decode cX7_inCityBy 27 = .ok (.aload_n 0, 1) := by decide +kernel
theorem dX7_inCityBy_28 : decode cX7_inCityBy 28 = .ok (.getfield 18, 3) := by decide +kernel
theorem dX7_inCityBy_31 : decode cX7_inCityBy 31 = .ok (.bipush 10, 2) := by decide +kernel
theorem dX7_inCityBy_33 : decode cX7_inCityBy 33 = .ok (.invokevirtual 134, 3) := by decide +kernel
theorem dX7_inCityBy_36 : decode cX7_inCityBy 36 = .ok (.invokestatic 164, 3) := by decide +kernel
theorem dX7_inCityBy_39 : decode cX7_inCityBy 39 = .ok (.ireturn, 1) := by decide +kernel
theorem sd716_0 (F : zFx p l R s m args meth c D cid kv N0 xs Ls RX7 cX7_inCityBy 3 n0 z0 nF zE d) (IH : zAllM l D cid kv N0 xs Ls d) (hQ : ∀ v h, Qq v h → v = r0 ∧ h = hF) (hn : nF = zN hF) (hz : zE = zZ hF) (hlocks : meth.locks = false) (hr : meth.sig.returnType = (some .int)) : zSoL p l e R s m args below meth c D cid kv N0 xs Ls 3 (MQ below (zQc D cid kv N0 xs Ls ρ0 r0 hF) args s (nF - n0) (zE - z0) (zA N0)) ρ0 n0 z0 nF zE Qq (zCall d) zt716_0 := zc_so (si_aload_n F dX7_inCityBy_0 rfl)
  (zc_so (si_getR (k := 1) F rfl inT7 (by decide) (by decide) rfl rfl tb_217 dX7_inCityBy_1)
  (zc_so (si_aload_n F dX7_inCityBy_4 rfl)
  (zc_so (si_getR (k := 0) F rfl inT7 (by decide) (by decide) rfl rfl tb_216 dX7_inCityBy_5)
  (zc_so (si_cV F (IH 202 mm202) mp202 (by decide) rfl rfl (by decide) tb_304 mi202 ms202 mn202 mc202 dX7_inCityBy_8)
  (zc_so (si_aload_n F dX7_inCityBy_11 rfl)
  (zc_so (si_getR (k := 1) F rfl inT7 (by decide) (by decide) rfl rfl tb_217 dX7_inCityBy_12)
  (zc_so (si_iload_n F dX7_inCityBy_15 rfl)
  (zc_so (si_putI (k := 11) F rfl inT2 (by decide) (by decide) rfl rfl rfl rfl tyX2_ok nmX2 tb_56 dX7_inCityBy_16)
  (zc_so (si_aload_n F dX7_inCityBy_19 rfl)
  (zc_so (si_getR (k := 1) F rfl inT7 (by decide) (by decide) rfl rfl tb_217 dX7_inCityBy_20)
  (zc_so (si_iload_n F dX7_inCityBy_23 rfl)
  (zc_so (si_cV F (IH 210 mm210) mp210 (by decide) rfl rfl (by decide) tb_308 mi210 ms210 mn210 mc210 dX7_inCityBy_24)
  (zc_so (si_aload_n F dX7_inCityBy_27 rfl)
  (zc_so (si_getR (k := 1) F rfl inT7 (by decide) (by decide) rfl rfl tb_217 dX7_inCityBy_28)
  (zc_so (si_bipush F dX7_inCityBy_31 rfl)
  (zc_so (si_cV F (IH 208 mm208) mp208 (by decide) rfl rfl (by decide) tb_469 mi208 ms208 mn208 mc208 dX7_inCityBy_33)
  (zc_so (si_cS  F (IH 901 mm901) mp901 (by decide) tb_494 mi901 mn901 mc901 dX7_inCityBy_36)
  (zc_so (si_rI F hQ hn hz hlocks hr (fun _ _ => rfl) dX7_inCityBy_39)
  (zc_nil)))))))))))))))))))
theorem sd716 (F : zFx p l R s m args meth c D cid kv N0 xs Ls RX7 cX7_inCityBy 3 n0 z0 nF zE d) (IH : zAllM l D cid kv N0 xs Ls d) (hQ : ∀ v h, Qq v h → v = r0 ∧ h = hF) (hn : nF = zN hF) (hz : zE = zZ hF) (hlocks : meth.locks = false) (hr : meth.sig.returnType = (some .int)) (pc : Nat) : zSo p l e R s m args below meth c D cid kv N0 xs Ls 3 (MQ below (zQc D cid kv N0 xs Ls ρ0 r0 hF) args s (nF - n0) (zE - z0) (zA N0)) ρ0 n0 z0 nF zE Qq (zCall d) pc (zTab 716 pc) := zc_tab [zt716_0] (zc_cons (sd716_0 F IH hQ hn hz hlocks hr) zc_end)
theorem dX7_richestPay_0 : decode cX7_richestPay 0 = .ok (.bipush 49, 2) := by decide +kernel
theorem dX7_richestPay_2 : decode cX7_richestPay 2 = .ok (.istore_n 2, 1) := by decide +kernel
theorem dX7_richestPay_3 : decode cX7_richestPay 3 = .ok (.iload_n 2, 1) := by decide +kernel
theorem dX7_richestPay_4 : decode cX7_richestPay 4 = .ok (.ifCond .lt 49, 3) := by decide +kernel
theorem dX7_richestPay_7 : decode cX7_richestPay 7 = .ok (.aload_n 0, 1) := by decide +kernel
theorem dX7_richestPay_8 : decode cX7_richestPay 8 = .ok (.getfield 18, 3) := by decide +kernel
theorem dX7_richestPay_11 : decode cX7_richestPay 11 = .ok (.aload_n 0, 1) := by decide +kernel
theorem dX7_richestPay_12 : decode cX7_richestPay 12 = .ok (.getfield 12, 3) := by decide +kernel
theorem dX7_richestPay_15 : decode cX7_richestPay 15 = .ok (.invokevirtual 144, 3) := by decide +kernel
theorem dX7_richestPay_18 : decode cX7_richestPay 18 = .ok (.aload_n 0, 1) := by decide +kernel
theorem dX7_richestPay_19 : decode cX7_richestPay 19 = .ok (.getfield 18, 3) := by decide +kernel
theorem dX7_richestPay_22 : decode cX7_richestPay 22 = .ok (.iload_n 2, 1) := by decide +kernel
theorem dX7_richestPay_23 : decode cX7_richestPay 23 = .ok (.putfield 161, 3) := by decide +kernel
theorem dX7_richestPay_26 : decode cX7_richestPay 26 = .ok (.aload_n 0, 1) := by decide +kernel
theorem dX7_richestPay_27 : decode cX7_richestPay 27 = .ok (.getfield 18, 3) := by decide +kernel
theorem dX7_richestPay_30 : decode cX7_richestPay 30 = .ok (.iload_n 1, 1) := by decide +kernel
theorem dX7_richestPay_31 : decode cX7_richestPay 31 = .ok (.invokevirtual 140, 3) := by decide +kernel
theorem dX7_richestPay_34 : decode cX7_richestPay 34 = .ok (.aload_n 0, 1) := by decide +kernel
theorem dX7_richestPay_35 : decode cX7_richestPay 35 = .ok (.getfield 18, 3) := by decide +kernel
theorem dX7_richestPay_38 : decode cX7_richestPay 38 = .ok (.getfield 102, 3) := by decide +kernel
theorem dX7_richestPay_41 : decode cX7_richestPay 41 = .ok (.iconst 1, 1) := by decide +kernel
theorem dX7_richestPay_42 : decode cX7_richestPay 42 = .ok (.if_icmp .lt 5, 3) := by decide +kernel
theorem dX7_richestPay_45 : decode cX7_richestPay 45 = .ok (.iload_n 2, 1) := by decide +kernel
theorem dX7_richestPay_46 : decode cX7_richestPay 46 = .ok (.ireturn, 1) := by decide +kernel
theorem dX7_richestPay_47 : decode cX7_richestPay 47 = .ok (.iinc 2 (-1), 3) := by decide +kernel
theorem dX7_richestPay_50 : decode cX7_richestPay 50 = .ok (.goto (-47), 3) := by decide +kernel
theorem dX7_richestPay_53 : decode cX7_richestPay 53 = .ok (.bipush (-5), 2) := by decide +kernel
theorem dX7_richestPay_55 : decode cX7_richestPay 55 = .ok (.ireturn, 1) := by decide +kernel
theorem sd717_0 (F : zFx p l R s m args meth c D cid kv N0 xs Ls RX7 cX7_richestPay 3 n0 z0 nF zE d) (IH : zAllM l D cid kv N0 xs Ls d) (hQ : ∀ v h, Qq v h → v = r0 ∧ h = hF) (hn : nF = zN hF) (hz : zE = zZ hF) (hlocks : meth.locks = false) (hr : meth.sig.returnType = (some .int)) : zSoL p l e R s m args below meth c D cid kv N0 xs Ls 3 (MQ below (zQc D cid kv N0 xs Ls ρ0 r0 hF) args s (nF - n0) (zE - z0) (zA N0)) ρ0 n0 z0 nF zE Qq (zCall d) zt717_0 := zc_so (si_bipush F dX7_richestPay_0 rfl)
  (zc_so (si_istore_n F dX7_richestPay_2 rfl)
  (zc_so (si_iload_n F dX7_richestPay_3 rfl)
  (zc_so (si_iflt F dX7_richestPay_4 rfl)
  (zc_so (si_aload_n F dX7_richestPay_7 rfl)
  (zc_so (si_getR (k := 1) F rfl inT7 (by decide) (by decide) rfl rfl tb_217 dX7_richestPay_8)
  (zc_so (si_aload_n F dX7_richestPay_11 rfl)
  (zc_so (si_getR (k := 0) F rfl inT7 (by decide) (by decide) rfl rfl tb_216 dX7_richestPay_12)
  (zc_so (si_cV F (IH 202 mm202) mp202 (by decide) rfl rfl (by decide) tb_304 mi202 ms202 mn202 mc202 dX7_richestPay_15)
  (zc_so (si_aload_n F dX7_richestPay_18 rfl)
  (zc_so (si_getR (k := 1) F rfl inT7 (by decide) (by decide) rfl rfl tb_217 dX7_richestPay_19)
  (zc_so (si_iload_n F dX7_richestPay_22 rfl)
  (zc_so (si_putI (k := 11) F rfl inT2 (by decide) (by decide) rfl rfl rfl rfl tyX2_ok nmX2 tb_56 dX7_richestPay_23)
  (zc_so (si_aload_n F dX7_richestPay_26 rfl)
  (zc_so (si_getR (k := 1) F rfl inT7 (by decide) (by decide) rfl rfl tb_217 dX7_richestPay_27)
  (zc_so (si_iload_n F dX7_richestPay_30 rfl)
  (zc_so (si_cV F (IH 210 mm210) mp210 (by decide) rfl rfl (by decide) tb_308 mi210 ms210 mn210 mc210 dX7_richestPay_31)
  (zc_so (si_aload_n F dX7_richestPay_34 rfl)
  (zc_so (si_getR (k := 1) F rfl inT7 (by decide) (by decide) rfl rfl tb_217 dX7_richestPay_35)
  (zc_so (si_getI (k := 8) F rfl inT2 (by decide) (by decide) rfl rfl tb_50 dX7_richestPay_38)
  (zc_so (si_iconst F dX7_richestPay_41 rfl)
  (zc_so (si_iclt F dX7_richestPay_42 rfl)
  (zc_so (si_iload_n F dX7_richestPay_45 rfl)
  (zc_so (si_rI F hQ hn hz hlocks hr (fun _ _ => rfl) dX7_richestPay_46)
  (zc_so (si_iinc F dX7_richestPay_47 rfl)
  (zc_so (si_goto F dX7_richestPay_50 rfl)
  (zc_so (si_bipush F dX7_richestPay_53 rfl)
  (zc_so (si_rI F hQ hn hz hlocks hr (fun _ _ => rfl) dX7_richestPay_55)
  (zc_nil))))))))))))))))))))))))))))
theorem sd717 (F : zFx p l R s m args meth c D cid kv N0 xs Ls RX7 cX7_richestPay 3 n0 z0 nF zE d) (IH : zAllM l D cid kv N0 xs Ls d) (hQ : ∀ v h, Qq v h → v = r0 ∧ h = hF) (hn : nF = zN hF) (hz : zE = zZ hF) (hlocks : meth.locks = false) (hr : meth.sig.returnType = (some .int)) (pc : Nat) : zSo p l e R s m args below meth c D cid kv N0 xs Ls 3 (MQ below (zQc D cid kv N0 xs Ls ρ0 r0 hF) args s (nF - n0) (zE - z0) (zA N0)) ρ0 n0 z0 nF zE Qq (zCall d) pc (zTab 717 pc) := zc_tab [zt717_0] (zc_cons (sd717_0 F IH hQ hn hz hlocks hr) zc_end)
theorem dX7_smallestBag_0 : decode cX7_smallestBag 0 = .ok (.bipush (-5), 2) := by decide +kernel
theorem dX7_smallestBag_2 : decode cX7_smallestBag 2 = .ok (.istore_n 2, 1) := by decide +kernel
theorem dX7_smallestBag_3 : decode cX7_smallestBag 3 = .ok (.bipush 7, 2) := by decide +kernel
theorem dX7_smallestBag_5 : decode cX7_smallestBag 5 = .ok (.istore_n 3, 1) := by decide +kernel
theorem dX7_smallestBag_6 : decode cX7_smallestBag 6 = .ok (.iconst 0, 1) := by decide +kernel
theorem dX7_smallestBag_7 : decode cX7_smallestBag 7 = .ok (.istore 4, 2) := by decide +kernel
theorem dX7_smallestBag_9 : decode cX7_smallestBag 9 = .ok (.iload 4, 2) := by decide +kernel
theorem dX7_smallestBag_11 : decode cX7_smallestBag 11 = .ok (.iconst 1, 1) := by decide +kernel
theorem dX7_smallestBag_12 : decode cX7_smallestBag 12 = .ok (.aload_n 0, 1) := by decide +kernel
theorem dX7_smallestBag_13 : decode cX7_smallestBag 13 = .ok (.getfield 12, 3) := by decide +kernel
theorem dX7_smallestBag_16 : decode cX7_smallestBag 16 = .ok (.getfield 169, 3) := by decide +kernel
theorem dX7_smallestBag_19 : decode cX7_smallestBag 19 = .ok (.ishl, 1) := by decide +kernel
theorem dX7_smallestBag_20 : decode cX7_smallestBag 20 = .ok (.if_icmp .ge 37, 3) := by decide +kernel
theorem dX7_smallestBag_23 : decode cX7_smallestBag 23 = .ok (.iload 4, 2) := by decide +kernel
theorem dX7_smallestBag_25 : decode cX7_smallestBag 25 = .ok (.invokestatic 164, 3) := by decide +kernel
theorem dX7_smallestBag_28 : decode cX7_smallestBag 28 = .ok (.iload_n 3, 1) := by decide +kernel
theorem dX7_smallestBag_29 : decode cX7_smallestBag 29 = .ok (.if_icmp .ge 22, 3) := by decide +kernel
theorem dX7_smallestBag_32 : decode cX7_smallestBag 32 = .ok (.aload_n 0, 1) := by decide +kernel
theorem dX7_smallestBag_33 : decode cX7_smallestBag 33 = .ok (.iload 4, 2) := by decide +kernel
theorem dX7_smallestBag_35 : decode cX7_smallestBag 35 = .ok (.iload_n 1, 1) := by decide +kernel
theorem dX7_smallestBag_36 : decode cX7_smallestBag 36 = .ok (.invokevirtual 172, 3) := by decide +kernel
theorem dX7_smallestBag_39 : decode cX7_smallestBag 39 = .ok (.ifCond .eq 12, 3) := by decide +kernel
theorem dX7_smallestBag_42 : decode cX7_smallestBag 42 = .ok (.iload 4, 2) := by decide +kernel
theorem dX7_smallestBag_44 : decode cX7_smallestBag 44 = .ok (.invokestatic 164, 3) := by decide +kernel
theorem dX7_smallestBag_47 : decode cX7_smallestBag 47 = .ok (.istore_n 3, 1) := by decide +kernel
theorem dX7_smallestBag_48 : decode cX7_smallestBag 48 = .ok (.iload 4, 2) := by decide +kernel
theorem dX7_smallestBag_50 : decode cX7_smallestBag 50 = .ok (.istore_n 2, 1) := by decide +kernel
theorem dX7_smallestBag_51 : decode cX7_smallestBag 51 = .ok (.iinc 4 1, 3) := by decide +kernel
theorem dX7_smallestBag_54 : decode cX7_smallestBag 54 = .ok (.goto (-45), 3) := by decide +kernel
theorem dX7_smallestBag_57 : decode cX7_smallestBag 57 = .ok (.iload_n 2, 1) := by decide +kernel
theorem dX7_smallestBag_58 : decode cX7_smallestBag 58 = .ok (.ireturn, 1) := by decide +kernel
theorem sd718_0 (F : zFx p l R s m args meth c D cid kv N0 xs Ls RX7 cX7_smallestBag 5 n0 z0 nF zE d) (IH : zAllM l D cid kv N0 xs Ls d) (hQ : ∀ v h, Qq v h → v = r0 ∧ h = hF) (hn : nF = zN hF) (hz : zE = zZ hF) (hlocks : meth.locks = false) (hr : meth.sig.returnType = (some .int)) : zSoL p l e R s m args below meth c D cid kv N0 xs Ls 5 (MQ below (zQc D cid kv N0 xs Ls ρ0 r0 hF) args s (nF - n0) (zE - z0) (zA N0)) ρ0 n0 z0 nF zE Qq (zCall d) zt718_0 := zc_so (si_bipush F dX7_smallestBag_0 rfl)
  (zc_so (si_istore_n F dX7_smallestBag_2 rfl)
  (zc_so (si_bipush F dX7_smallestBag_3 rfl)
  (zc_so (si_istore_n F dX7_smallestBag_5 rfl)
  (zc_so (si_iconst F dX7_smallestBag_6 rfl)
  (zc_so (si_istore F dX7_smallestBag_7)
  (zc_so (si_iload F dX7_smallestBag_9)
  (zc_so (si_iconst F dX7_smallestBag_11 rfl)
  (zc_so (si_aload_n F dX7_smallestBag_12 rfl)
  (zc_so (si_getR (k := 0) F rfl inT7 (by decide) (by decide) rfl rfl tb_216 dX7_smallestBag_13)
  (zc_so (si_getI (k := 7) F rfl inT2 (by decide) (by decide) rfl rfl tb_48 dX7_smallestBag_16)
  (zc_so (si_ishl F dX7_smallestBag_19)
  (zc_so (si_icge F dX7_smallestBag_20 rfl)
  (zc_so (si_iload F dX7_smallestBag_23)
  (zc_so (si_cS  F (IH 901 mm901) mp901 (by decide) tb_494 mi901 mn901 mc901 dX7_smallestBag_25)
  (zc_so (si_iload_n F dX7_smallestBag_28 rfl)
  (zc_so (si_icge F dX7_smallestBag_29 rfl)
  (zc_so (si_aload_n F dX7_smallestBag_32 rfl)
  (zc_so (si_iload F dX7_smallestBag_33)
  (zc_so (si_iload_n F dX7_smallestBag_35 rfl)
  (zc_so (si_cV F (IH 719 mm719) mp719 (by decide) rfl rfl (by decide) tb_508 mi719 ms719 mn719 mc719 dX7_smallestBag_36)
  (zc_so (si_ifeq F dX7_smallestBag_39 rfl)
  (zc_so (si_iload F dX7_smallestBag_42)
  (zc_so (si_cS  F (IH 901 mm901) mp901 (by decide) tb_494 mi901 mn901 mc901 dX7_smallestBag_44)
  (zc_so (si_istore_n F dX7_smallestBag_47 rfl)
  (zc_so (si_iload F dX7_smallestBag_48)
  (zc_so (si_istore_n F dX7_smallestBag_50 rfl)
  (zc_so (si_iinc F dX7_smallestBag_51 rfl)
  (zc_so (si_goto F dX7_smallestBag_54 rfl)
  (zc_so (si_iload_n F dX7_smallestBag_57 rfl)
  (zc_so (si_rI F hQ hn hz hlocks hr (fun _ _ => rfl) dX7_smallestBag_58)
  (zc_nil)))))))))))))))))))))))))))))))
theorem sd718 (F : zFx p l R s m args meth c D cid kv N0 xs Ls RX7 cX7_smallestBag 5 n0 z0 nF zE d) (IH : zAllM l D cid kv N0 xs Ls d) (hQ : ∀ v h, Qq v h → v = r0 ∧ h = hF) (hn : nF = zN hF) (hz : zE = zZ hF) (hlocks : meth.locks = false) (hr : meth.sig.returnType = (some .int)) (pc : Nat) : zSo p l e R s m args below meth c D cid kv N0 xs Ls 5 (MQ below (zQc D cid kv N0 xs Ls ρ0 r0 hF) args s (nF - n0) (zE - z0) (zA N0)) ρ0 n0 z0 nF zE Qq (zCall d) pc (zTab 718 pc) := zc_tab [zt718_0] (zc_cons (sd718_0 F IH hQ hn hz hlocks hr) zc_end)
theorem dX7_keepsAllAway_0 : decode cX7_keepsAllAway 0 = .ok (.aload_n 0, 1) := by decide +kernel
theorem dX7_keepsAllAway_1 : decode cX7_keepsAllAway 1 = .ok (.getfield 18, 3) := by decide +kernel
theorem dX7_keepsAllAway_4 : decode cX7_keepsAllAway 4 = .ok (.aload_n 0, 1) := by decide +kernel
theorem dX7_keepsAllAway_5 : decode cX7_keepsAllAway 5 = .ok (.getfield 12, 3) := by decide +kernel
theorem dX7_keepsAllAway_8 : decode cX7_keepsAllAway 8 = .ok (.invokevirtual 144, 3) := by decide +kernel
theorem dX7_keepsAllAway_11 : decode cX7_keepsAllAway 11 = .ok (.iconst 0, 1) := by decide +kernel
theorem dX7_keepsAllAway_12 : decode cX7_keepsAllAway 12 = .ok (.istore_n 3, 1) := by decide +kernel
theorem dX7_keepsAllAway_13 : decode cX7_keepsAllAway 13 = .ok (.iload_n 3, 1) := by decide +kernel
theorem dX7_keepsAllAway_14 : decode cX7_keepsAllAway 14 = .ok (.aload_n 0, 1) := by decide +kernel
theorem dX7_keepsAllAway_15 : decode cX7_keepsAllAway 15 = .ok (.getfield 18, 3) := by decide +kernel
theorem dX7_keepsAllAway_18 : decode cX7_keepsAllAway 18 = .ok (.getfield 169, 3) := by decide +kernel
theorem dX7_keepsAllAway_21 : decode cX7_keepsAllAway 21 = .ok (.if_icmp .ge 28, 3) := by decide +kernel
theorem dX7_keepsAllAway_24 : decode cX7_keepsAllAway 24 = .ok (.iload_n 1, 1) := by decide +kernel
theorem dX7_keepsAllAway_25 : decode cX7_keepsAllAway 25 = .ok (.iload_n 3, 1) := by decide +kernel
theorem dX7_keepsAllAway_26 : decode cX7_keepsAllAway 26 = .ok (.ishr, 1) := by decide +kernel
theorem dX7_keepsAllAway_27 : decode cX7_keepsAllAway 27 = .ok (.iconst 1, 1) := by decide +kernel
theorem dX7_keepsAllAway_28 : decode cX7_keepsAllAway 28 = .ok (.iand, 1) := by decide +kernel
theorem dX7_keepsAllAway_29 : decode cX7_keepsAllAway 29 = .ok (.iconst 1, 1) := by decide +kernel
theorem dX7_keepsAllAway_30 : decode cX7_keepsAllAway 30 = .ok (.if_icmp .ne 13, 3) := by decide +kernel
theorem dX7_keepsAllAway_33 : decode cX7_keepsAllAway 33 = .ok (.aload_n 0, 1) := by decide +kernel
theorem dX7_keepsAllAway_34 : decode cX7_keepsAllAway 34 = .ok (.getfield 18, 3) := by decide +kernel
theorem dX7_keepsAllAway_37 : decode cX7_keepsAllAway 37 = .ok (.getfield 74, 3) := by decide +kernel
theorem dX7_keepsAllAway_40 : decode cX7_keepsAllAway 40 = .ok (.iload_n 3, 1) := by decide +kernel
theorem dX7_keepsAllAway_41 : decode cX7_keepsAllAway 41 = .ok (.iconst 0, 1) := by decide +kernel
theorem dX7_keepsAllAway_42 : decode cX7_keepsAllAway 42 = .ok (.iastore, 1) := by decide +kernel
theorem dX7_keepsAllAway_43 : decode cX7_keepsAllAway 43 = .ok (.iinc 3 1, 3) := by decide +kernel
theorem dX7_keepsAllAway_46 : decode cX7_keepsAllAway 46 = .ok (.goto (-33), 3) := by decide +kernel
theorem dX7_keepsAllAway_49 : decode cX7_keepsAllAway 49 = .ok (.aload_n 0, 1) := by decide +kernel
theorem dX7_keepsAllAway_50 : decode cX7_keepsAllAway 50 = .ok (.getfield 18, 3) := by decide +kernel
theorem dX7_keepsAllAway_53 : decode cX7_keepsAllAway 53 = .ok (.iload_n 2, 1) := by decide +kernel
theorem dX7_keepsAllAway_54 : decode cX7_keepsAllAway 54 = .ok (.invokevirtual 140, 3) := by decide +kernel
theorem dX7_keepsAllAway_57 : decode cX7_keepsAllAway 57 = .ok (.aload_n 0, 1) := by decide +kernel
theorem dX7_keepsAllAway_58 : decode cX7_keepsAllAway 58 = .ok (.getfield 18, 3) := by decide +kernel
theorem dX7_keepsAllAway_61 : decode cX7_keepsAllAway 61 = .ok (.bipush 10, 2) := by decide +kernel
theorem dX7_keepsAllAway_63 : decode cX7_keepsAllAway 63 = .ok (.invokevirtual 134, 3) := by decide +kernel
theorem dX7_keepsAllAway_66 : decode cX7_keepsAllAway 66 = .ok (.ifCond .ne 7, 3) := by decide +kernel
theorem dX7_keepsAllAway_69 : decode cX7_keepsAllAway 69 = .ok (.iconst 1, 1) := by decide +kernel
theorem dX7_keepsAllAway_70 : decode cX7_keepsAllAway 70 = .ok (.goto 4, 3) := by decide +kernel
theorem dX7_keepsAllAway_73 : decode cX7_keepsAllAway 73 = .ok (.iconst 0, 1) := by decide +kernel
theorem dX7_keepsAllAway_74 : decode cX7_keepsAllAway 74 = .ok (.ireturn, 1) := by decide +kernel
theorem sd719_0 (F : zFx p l R s m args meth c D cid kv N0 xs Ls RX7 cX7_keepsAllAway 4 n0 z0 nF zE d) (IH : zAllM l D cid kv N0 xs Ls d) (hQ : ∀ v h, Qq v h → v = r0 ∧ h = hF) (hn : nF = zN hF) (hz : zE = zZ hF) (hlocks : meth.locks = false) (hr : meth.sig.returnType = (some .boolean)) : zSoL p l e R s m args below meth c D cid kv N0 xs Ls 4 (MQ below (zQc D cid kv N0 xs Ls ρ0 r0 hF) args s (nF - n0) (zE - z0) (zA N0)) ρ0 n0 z0 nF zE Qq (zCall d) zt719_0 := zc_so (si_aload_n F dX7_keepsAllAway_0 rfl)
  (zc_so (si_getR (k := 1) F rfl inT7 (by decide) (by decide) rfl rfl tb_217 dX7_keepsAllAway_1)
  (zc_so (si_aload_n F dX7_keepsAllAway_4 rfl)
  (zc_so (si_getR (k := 0) F rfl inT7 (by decide) (by decide) rfl rfl tb_216 dX7_keepsAllAway_5)
  (zc_so (si_cV F (IH 202 mm202) mp202 (by decide) rfl rfl (by decide) tb_304 mi202 ms202 mn202 mc202 dX7_keepsAllAway_8)
  (zc_so (si_iconst F dX7_keepsAllAway_11 rfl)
  (zc_so (si_istore_n F dX7_keepsAllAway_12 rfl)
  (zc_so (si_iload_n F dX7_keepsAllAway_13 rfl)
  (zc_so (si_aload_n F dX7_keepsAllAway_14 rfl)
  (zc_so (si_getR (k := 1) F rfl inT7 (by decide) (by decide) rfl rfl tb_217 dX7_keepsAllAway_15)
  (zc_so (si_getI (k := 7) F rfl inT2 (by decide) (by decide) rfl rfl tb_48 dX7_keepsAllAway_18)
  (zc_so (si_icge F dX7_keepsAllAway_21 rfl)
  (zc_so (si_iload_n F dX7_keepsAllAway_24 rfl)
  (zc_so (si_iload_n F dX7_keepsAllAway_25 rfl)
  (zc_so (si_ishr F dX7_keepsAllAway_26)
  (zc_so (si_iconst F dX7_keepsAllAway_27 rfl)
  (zc_so (si_iand F dX7_keepsAllAway_28)
  (zc_so (si_iconst F dX7_keepsAllAway_29 rfl)
  (zc_so (si_icne F dX7_keepsAllAway_30 rfl)
  (zc_so (si_aload_n F dX7_keepsAllAway_33 rfl)
  (zc_so (si_getR (k := 1) F rfl inT7 (by decide) (by decide) rfl rfl tb_217 dX7_keepsAllAway_34)
  (zc_so (si_getR (k := 2) F rfl inT2 (by decide) (by decide) rfl rfl tb_38 dX7_keepsAllAway_37)
  (zc_so (si_iload_n F dX7_keepsAllAway_40 rfl)
  (zc_so (si_iconst F dX7_keepsAllAway_41 rfl)
  (zc_so (si_iastore F dX7_keepsAllAway_42)
  (zc_so (si_iinc F dX7_keepsAllAway_43 rfl)
  (zc_so (si_goto F dX7_keepsAllAway_46 rfl)
  (zc_so (si_aload_n F dX7_keepsAllAway_49 rfl)
  (zc_so (si_getR (k := 1) F rfl inT7 (by decide) (by decide) rfl rfl tb_217 dX7_keepsAllAway_50)
  (zc_so (si_iload_n F dX7_keepsAllAway_53 rfl)
  (zc_so (si_cV F (IH 210 mm210) mp210 (by decide) rfl rfl (by decide) tb_308 mi210 ms210 mn210 mc210 dX7_keepsAllAway_54)
  (zc_so (si_aload_n F dX7_keepsAllAway_57 rfl)
  (zc_so (si_getR (k := 1) F rfl inT7 (by decide) (by decide) rfl rfl tb_217 dX7_keepsAllAway_58)
  (zc_so (si_bipush F dX7_keepsAllAway_61 rfl)
  (zc_so (si_cV F (IH 208 mm208) mp208 (by decide) rfl rfl (by decide) tb_469 mi208 ms208 mn208 mc208 dX7_keepsAllAway_63)
  (zc_nil)))))))))))))))))))))))))))))))))))
theorem sd719_1 (F : zFx p l R s m args meth c D cid kv N0 xs Ls RX7 cX7_keepsAllAway 4 n0 z0 nF zE d) (IH : zAllM l D cid kv N0 xs Ls d) (hQ : ∀ v h, Qq v h → v = r0 ∧ h = hF) (hn : nF = zN hF) (hz : zE = zZ hF) (hlocks : meth.locks = false) (hr : meth.sig.returnType = (some .boolean)) : zSoL p l e R s m args below meth c D cid kv N0 xs Ls 4 (MQ below (zQc D cid kv N0 xs Ls ρ0 r0 hF) args s (nF - n0) (zE - z0) (zA N0)) ρ0 n0 z0 nF zE Qq (zCall d) zt719_1 := zc_so (si_ifne F dX7_keepsAllAway_66 rfl)
  (zc_so (si_iconst F dX7_keepsAllAway_69 rfl)
  (zc_so (si_goto F dX7_keepsAllAway_70 rfl)
  (zc_so (si_iconst F dX7_keepsAllAway_73 rfl)
  (zc_so (si_rI F hQ hn hz hlocks hr (fun x h => by rcases h with rfl | rfl <;> rfl) dX7_keepsAllAway_74)
  (zc_nil)))))
theorem sd719 (F : zFx p l R s m args meth c D cid kv N0 xs Ls RX7 cX7_keepsAllAway 4 n0 z0 nF zE d) (IH : zAllM l D cid kv N0 xs Ls d) (hQ : ∀ v h, Qq v h → v = r0 ∧ h = hF) (hn : nF = zN hF) (hz : zE = zZ hF) (hlocks : meth.locks = false) (hr : meth.sig.returnType = (some .boolean)) (pc : Nat) : zSo p l e R s m args below meth c D cid kv N0 xs Ls 4 (MQ below (zQc D cid kv N0 xs Ls ρ0 r0 hF) args s (nF - n0) (zE - z0) (zA N0)) ρ0 n0 z0 nF zE Qq (zCall d) pc (zTab 719 pc) := zc_tab [zt719_0, zt719_1] (zc_cons (sd719_0 F IH hQ hn hz hlocks hr) (zc_cons (sd719_1 F IH hQ hn hz hlocks hr) zc_end))
theorem dX7_see_0 : decode cX7_see 0 = .ok (.iload_n 1, 1) := by decide +kernel
theorem dX7_see_1 : decode cX7_see 1 = .ok (.iconst (-1), 1) := by decide +kernel
theorem dX7_see_2 : decode cX7_see 2 = .ok (.if_icmp .ne 14, 3) := by decide +kernel
theorem dX7_see_5 : decode cX7_see 5 = .ok (.aload_n 0, 1) := by decide +kernel
theorem dX7_see_6 : decode cX7_see 6 = .ok (.getfield 27, 3) := by decide +kernel
theorem dX7_see_9 : decode cX7_see 9 = .ok (.getfield 175, 3) := by decide +kernel
theorem dX7_see_12 : decode cX7_see 12 = .ok (.invokevirtual 179, 3) := by decide +kernel
theorem dX7_see_15 : decode cX7_see 15 = .ok (.ireturn, 1) := by decide +kernel
theorem dX7_see_16 : decode cX7_see 16 = .ok (.aload_n 0, 1) := by decide +kernel
theorem dX7_see_17 : decode cX7_see 17 = .ok (.iload_n 1, 1) := by decide +kernel
theorem dX7_see_18 : decode cX7_see 18 = .ok (.invokevirtual 63, 3) := by decide +kernel
theorem dX7_see_21 : decode cX7_see 21 = .ok (.ifCond .eq 12, 3) := by decide +kernel
theorem dX7_see_24 : decode cX7_see 24 = .ok (.iload_n 3, 1) := by decide +kernel
theorem dX7_see_25 : decode cX7_see 25 = .ok (.bipush 10, 2) := by decide +kernel
theorem dX7_see_27 : decode cX7_see 27 = .ok (.invokestatic 55, 3) := by decide +kernel
theorem dX7_see_30 : decode cX7_see 30 = .ok (.ifCond .ne 5, 3) := by decide +kernel
theorem dX7_see_33 : decode cX7_see 33 = .ok (.iconst (-1), 1) := by decide +kernel
theorem dX7_see_34 : decode cX7_see 34 = .ok (.ireturn, 1) := by decide +kernel
theorem dX7_see_35 : decode cX7_see 35 = .ok (.iload_n 2, 1) := by decide +kernel
theorem dX7_see_36 : decode cX7_see 36 = .ok (.bipush 12, 2) := by decide +kernel
theorem dX7_see_38 : decode cX7_see 38 = .ok (.invokestatic 55, 3) := by decide +kernel
theorem dX7_see_41 : decode cX7_see 41 = .ok (.ifCond .ne 6, 3) := by decide +kernel
theorem dX7_see_44 : decode cX7_see 44 = .ok (.bipush (-2), 2) := by decide +kernel
theorem dX7_see_46 : decode cX7_see 46 = .ok (.ireturn, 1) := by decide +kernel
theorem dX7_see_47 : decode cX7_see 47 = .ok (.aload_n 0, 1) := by decide +kernel
theorem dX7_see_48 : decode cX7_see 48 = .ok (.getfield 27, 3) := by decide +kernel
theorem dX7_see_51 : decode cX7_see 51 = .ok (.getfield 175, 3) := by decide +kernel
theorem dX7_see_54 : decode cX7_see 54 = .ok (.iload_n 1, 1) := by decide +kernel
theorem dX7_see_55 : decode cX7_see 55 = .ok (.iload_n 2, 1) := by decide +kernel
theorem dX7_see_56 : decode cX7_see 56 = .ok (.iload_n 3, 1) := by decide +kernel
theorem dX7_see_57 : decode cX7_see 57 = .ok (.invokevirtual 184, 3) := by decide +kernel
theorem dX7_see_60 : decode cX7_see 60 = .ok (.ireturn, 1) := by decide +kernel
theorem sd720_0 (F : zFx p l R s m args meth c D cid kv N0 xs Ls RX7 cX7_see 4 n0 z0 nF zE d) (IH : zAllM l D cid kv N0 xs Ls d) (hQ : ∀ v h, Qq v h → v = r0 ∧ h = hF) (hn : nF = zN hF) (hz : zE = zZ hF) (hlocks : meth.locks = false) (hr : meth.sig.returnType = (some .int)) : zSoL p l e R s m args below meth c D cid kv N0 xs Ls 4 (MQ below (zQc D cid kv N0 xs Ls ρ0 r0 hF) args s (nF - n0) (zE - z0) (zA N0)) ρ0 n0 z0 nF zE Qq (zCall d) zt720_0 := zc_so (si_iload_n F dX7_see_0 rfl)
  (zc_so (si_iconst F dX7_see_1 rfl)
  (zc_so (si_icne F dX7_see_2 rfl)
  (zc_so (si_aload_n F dX7_see_5 rfl)
  (zc_so (si_getR (k := 3) F rfl inT7 (by decide) (by decide) rfl rfl tb_219 dX7_see_6)
  (zc_so (si_getR (k := 0) F rfl inT1 (by decide) (by decide) rfl rfl tb_120 dX7_see_9)
  (zc_so (si_cV F (IH 302 mm302) mp302 (by decide) rfl rfl (by decide) tb_516 mi302 ms302 mn302 mc302 dX7_see_12)
  (zc_so (si_rI F hQ hn hz hlocks hr (fun _ _ => rfl) dX7_see_15)
  (zc_so (si_aload_n F dX7_see_16 rfl)
  (zc_so (si_iload_n F dX7_see_17 rfl)
  (zc_so (si_cV F (IH 743 mm743) mp743 (by decide) rfl rfl (by decide) tb_266 mi743 ms743 mn743 mc743 dX7_see_18)
  (zc_so (si_ifeq F dX7_see_21 rfl)
  (zc_so (si_iload_n F dX7_see_24 rfl)
  (zc_so (si_bipush F dX7_see_25 rfl)
  (zc_so (si_cS  F (IH 744 mm744) mp744 (by decide) tb_251 mi744 mn744 mc744 dX7_see_27)
  (zc_so (si_ifne F dX7_see_30 rfl)
  (zc_so (si_iconst F dX7_see_33 rfl)
  (zc_so (si_rI F hQ hn hz hlocks hr (fun _ _ => rfl) dX7_see_34)
  (zc_so (si_iload_n F dX7_see_35 rfl)
  (zc_so (si_bipush F dX7_see_36 rfl)
  (zc_so (si_cS  F (IH 744 mm744) mp744 (by decide) tb_251 mi744 mn744 mc744 dX7_see_38)
  (zc_so (si_ifne F dX7_see_41 rfl)
  (zc_so (si_bipush F dX7_see_44 rfl)
  (zc_so (si_rI F hQ hn hz hlocks hr (fun _ _ => rfl) dX7_see_46)
  (zc_so (si_aload_n F dX7_see_47 rfl)
  (zc_so (si_getR (k := 3) F rfl inT7 (by decide) (by decide) rfl rfl tb_219 dX7_see_48)
  (zc_so (si_getR (k := 0) F rfl inT1 (by decide) (by decide) rfl rfl tb_120 dX7_see_51)
  (zc_so (si_iload_n F dX7_see_54 rfl)
  (zc_so (si_iload_n F dX7_see_55 rfl)
  (zc_so (si_iload_n F dX7_see_56 rfl)
  (zc_so (si_cV F (IH 303 mm303) mp303 (by decide) rfl rfl (by decide) tb_520 mi303 ms303 mn303 mc303 dX7_see_57)
  (zc_so (si_rI F hQ hn hz hlocks hr (fun _ _ => rfl) dX7_see_60)
  (zc_nil))))))))))))))))))))))))))))))))
theorem sd720 (F : zFx p l R s m args meth c D cid kv N0 xs Ls RX7 cX7_see 4 n0 z0 nF zE d) (IH : zAllM l D cid kv N0 xs Ls d) (hQ : ∀ v h, Qq v h → v = r0 ∧ h = hF) (hn : nF = zN hF) (hz : zE = zZ hF) (hlocks : meth.locks = false) (hr : meth.sig.returnType = (some .int)) (pc : Nat) : zSo p l e R s m args below meth c D cid kv N0 xs Ls 4 (MQ below (zQc D cid kv N0 xs Ls ρ0 r0 hF) args s (nF - n0) (zE - z0) (zA N0)) ρ0 n0 z0 nF zE Qq (zCall d) pc (zTab 720 pc) := zc_tab [zt720_0] (zc_cons (sd720_0 F IH hQ hn hz hlocks hr) zc_end)
theorem dX7_can_0 : decode cX7_can 0 = .ok (.aload_n 0, 1) := by decide +kernel
theorem dX7_can_1 : decode cX7_can 1 = .ok (.iload_n 1, 1) := by decide +kernel
theorem dX7_can_2 : decode cX7_can 2 = .ok (.invokevirtual 63, 3) := by decide +kernel
theorem dX7_can_5 : decode cX7_can 5 = .ok (.ifCond .eq 19, 3) := by decide +kernel
theorem dX7_can_8 : decode cX7_can 8 = .ok (.iload_n 2, 1) := by decide +kernel
theorem dX7_can_9 : decode cX7_can 9 = .ok (.iconst 1, 1) := by decide +kernel
theorem dX7_can_10 : decode cX7_can 10 = .ok (.invokestatic 55, 3) := by decide +kernel
theorem dX7_can_13 : decode cX7_can 13 = .ok (.ifCond .eq 11, 3) := by decide +kernel
theorem dX7_can_16 : decode cX7_can 16 = .ok (.iload_n 3, 1) := by decide +kernel
theorem dX7_can_17 : decode cX7_can 17 = .ok (.iconst 1, 1) := by decide +kernel
theorem dX7_can_18 : decode cX7_can 18 = .ok (.invokestatic 55, 3) := by decide +kernel
theorem dX7_can_21 : decode cX7_can 21 = .ok (.ifCond .ne 5, 3) := by decide +kernel
theorem dX7_can_24 : decode cX7_can 24 = .ok (.iconst (-1), 1) := by decide +kernel
theorem dX7_can_25 : decode cX7_can 25 = .ok (.ireturn, 1) := by decide +kernel
theorem dX7_can_26 : decode cX7_can 26 = .ok (.iload_n 2, 1) := by decide +kernel
theorem dX7_can_27 : decode cX7_can 27 = .ok (.ifCond .ne 8, 3) := by decide +kernel
theorem dX7_can_30 : decode cX7_can 30 = .ok (.bipush 99, 2) := by decide +kernel
theorem dX7_can_32 : decode cX7_can 32 = .ok (.goto 5, 3) := by decide +kernel
theorem dX7_can_35 : decode cX7_can 35 = .ok (.bipush 9, 2) := by decide +kernel
theorem dX7_can_37 : decode cX7_can 37 = .ok (.istore 4, 2) := by decide +kernel
theorem dX7_can_39 : decode cX7_can 39 = .ok (.iconst 0, 1) := by decide +kernel
theorem dX7_can_40 : decode cX7_can 40 = .ok (.istore 5, 2) := by decide +kernel
theorem dX7_can_42 : decode cX7_can 42 = .ok (.bipush (-5), 2) := by decide +kernel
theorem dX7_can_44 : decode cX7_can 44 = .ok (.istore 6, 2) := by decide +kernel
theorem dX7_can_46 : decode cX7_can 46 = .ok (.iload 4, 2) := by decide +kernel
theorem dX7_can_48 : decode cX7_can 48 = .ok (.istore 7, 2) := by decide +kernel
theorem dX7_can_50 : decode cX7_can 50 = .ok (.iload 7, 2) := by decide +kernel
theorem dX7_can_52 : decode cX7_can 52 = .ok (.ifCond .lt 63, 3) := by decide +kernel
theorem dX7_can_55 : decode cX7_can 55 = .ok (.aload_n 0, 1) := by decide +kernel
theorem dX7_can_56 : decode cX7_can 56 = .ok (.getfield 18, 3) := by decide +kernel
theorem dX7_can_59 : decode cX7_can 59 = .ok (.aload_n 0, 1) := by decide +kernel
theorem dX7_can_60 : decode cX7_can 60 = .ok (.getfield 12, 3) := by decide +kernel
theorem dX7_can_63 : decode cX7_can 63 = .ok (.invokevirtual 144, 3) := by decide +kernel
theorem dX7_can_66 : decode cX7_can 66 = .ok (.iload_n 2, 1) := by decide +kernel
theorem dX7_can_67 : decode cX7_can 67 = .ok (.ifCond .ne 17, 3) := by decide +kernel
theorem dX7_can_70 : decode cX7_can 70 = .ok (.aload_n 0, 1) := by decide +kernel
theorem dX7_can_71 : decode cX7_can 71 = .ok (.getfield 18, 3) := by decide +kernel
theorem dX7_can_74 : decode cX7_can 74 = .ok (.getfield 74, 3) := by decide +kernel
theorem dX7_can_77 : decode cX7_can 77 = .ok (.iload_n 1, 1) := by decide +kernel
theorem dX7_can_78 : decode cX7_can 78 = .ok (.iload 7, 2) := by decide +kernel
theorem dX7_can_80 : decode cX7_can 80 = .ok (.iastore, 1) := by decide +kernel
theorem dX7_can_81 : decode cX7_can 81 = .ok (.goto 14, 3) := by decide +kernel
theorem dX7_can_84 : decode cX7_can 84 = .ok (.aload_n 0, 1) := by decide +kernel
theorem dX7_can_85 : decode cX7_can 85 = .ok (.getfield 18, 3) := by decide +kernel
theorem dX7_can_88 : decode cX7_can 88 = .ok (.getfield 71, 3) := by decide +kernel
theorem dX7_can_91 : decode cX7_can 91 = .ok (.iload_n 1, 1) := by decide +kernel
theorem dX7_can_92 : decode cX7_can 92 = .ok (.iload 7, 2) := by decide +kernel
theorem dX7_can_94 : decode cX7_can 94 = .ok (.iastore, 1) := by decide +kernel
theorem dX7_can_95 : decode cX7_can 95 = .ok (.aload_n 0, 1) := by decide +kernel
theorem dX7_can_96 : decode cX7_can 96 = .ok (.invokevirtual 188, 3) := by decide +kernel
theorem dX7_can_99 : decode cX7_can 99 = .ok (.ifCond .eq 10, 3) := by decide +kernel
theorem dX7_can_102 : decode cX7_can 102 = .ok (.iinc 5 1, 3) := by decide +kernel
theorem dX7_can_105 : decode cX7_can 105 = .ok (.iload 7, 2) := by decide +kernel
theorem dX7_can_107 : decode cX7_can 107 = .ok (.istore 6, 2) := by decide +kernel
theorem dX7_can_109 : decode cX7_can 109 = .ok (.iinc 7 (-1), 3) := by decide +kernel
theorem dX7_can_112 : decode cX7_can 112 = .ok (.goto (-62), 3) := by decide +kernel
theorem dX7_can_115 : decode cX7_can 115 = .ok (.iload_n 3, 1) := by decide +kernel
theorem dX7_can_116 : decode cX7_can 116 = .ok (.ifCond .ne 8, 3) := by decide +kernel
theorem dX7_can_119 : decode cX7_can 119 = .ok (.iload 5, 2) := by decide +kernel
theorem dX7_can_121 : decode cX7_can 121 = .ok (.goto 5, 3) := by decide +kernel
theorem dX7_can_124 : decode cX7_can 124 = .ok (.iload 6, 2) := by decide +kernel
theorem dX7_can_126 : decode cX7_can 126 = .ok (.ireturn, 1) := by decide +kernel
theorem sd721_0 (F : zFx p l R s m args meth c D cid kv N0 xs Ls RX7 cX7_can 8 n0 z0 nF zE d) (IH : zAllM l D cid kv N0 xs Ls d) (hQ : ∀ v h, Qq v h → v = r0 ∧ h = hF) (hn : nF = zN hF) (hz : zE = zZ hF) (hlocks : meth.locks = false) (hr : meth.sig.returnType = (some .int)) : zSoL p l e R s m args below meth c D cid kv N0 xs Ls 8 (MQ below (zQc D cid kv N0 xs Ls ρ0 r0 hF) args s (nF - n0) (zE - z0) (zA N0)) ρ0 n0 z0 nF zE Qq (zCall d) zt721_0 := zc_so (si_aload_n F dX7_can_0 rfl)
  (zc_so (si_iload_n F dX7_can_1 rfl)
  (zc_so (si_cV F (IH 743 mm743) mp743 (by decide) rfl rfl (by decide) tb_266 mi743 ms743 mn743 mc743 dX7_can_2)
  (zc_so (si_ifeq F dX7_can_5 rfl)
  (zc_so (si_iload_n F dX7_can_8 rfl)
  (zc_so (si_iconst F dX7_can_9 rfl)
  (zc_so (si_cS  F (IH 744 mm744) mp744 (by decide) tb_251 mi744 mn744 mc744 dX7_can_10)
  (zc_so (si_ifeq F dX7_can_13 rfl)
  (zc_so (si_iload_n F dX7_can_16 rfl)
  (zc_so (si_iconst F dX7_can_17 rfl)
  (zc_so (si_cS  F (IH 744 mm744) mp744 (by decide) tb_251 mi744 mn744 mc744 dX7_can_18)
  (zc_so (si_ifne F dX7_can_21 rfl)
  (zc_so (si_iconst F dX7_can_24 rfl)
  (zc_so (si_rI F hQ hn hz hlocks hr (fun _ _ => rfl) dX7_can_25)
  (zc_so (si_iload_n F dX7_can_26 rfl)
  (zc_so (si_ifne F dX7_can_27 rfl)
  (zc_so (si_bipush F dX7_can_30 rfl)
  (zc_so (si_goto F dX7_can_32 rfl)
  (zc_so (si_bipush F dX7_can_35 rfl)
  (zc_so (si_istore F dX7_can_37)
  (zc_so (si_iconst F dX7_can_39 rfl)
  (zc_so (si_istore F dX7_can_40)
  (zc_so (si_bipush F dX7_can_42 rfl)
  (zc_so (si_istore F dX7_can_44)
  (zc_so (si_iload F dX7_can_46)
  (zc_so (si_istore F dX7_can_48)
  (zc_so (si_iload F dX7_can_50)
  (zc_so (si_iflt F dX7_can_52 rfl)
  (zc_so (si_aload_n F dX7_can_55 rfl)
  (zc_so (si_getR (k := 1) F rfl inT7 (by decide) (by decide) rfl rfl tb_217 dX7_can_56)
  (zc_so (si_aload_n F dX7_can_59 rfl)
  (zc_so (si_getR (k := 0) F rfl inT7 (by decide) (by decide) rfl rfl tb_216 dX7_can_60)
  (zc_so (si_cV F (IH 202 mm202) mp202 (by decide) rfl rfl (by decide) tb_304 mi202 ms202 mn202 mc202 dX7_can_63)
  (zc_nil)))))))))))))))))))))))))))))))))
theorem sd721_1 (F : zFx p l R s m args meth c D cid kv N0 xs Ls RX7 cX7_can 8 n0 z0 nF zE d) (IH : zAllM l D cid kv N0 xs Ls d) (hQ : ∀ v h, Qq v h → v = r0 ∧ h = hF) (hn : nF = zN hF) (hz : zE = zZ hF) (hlocks : meth.locks = false) (hr : meth.sig.returnType = (some .int)) : zSoL p l e R s m args below meth c D cid kv N0 xs Ls 8 (MQ below (zQc D cid kv N0 xs Ls ρ0 r0 hF) args s (nF - n0) (zE - z0) (zA N0)) ρ0 n0 z0 nF zE Qq (zCall d) zt721_1 := zc_so (si_iload_n F dX7_can_66 rfl)
  (zc_so (si_ifne F dX7_can_67 rfl)
  (zc_so (si_aload_n F dX7_can_70 rfl)
  (zc_so (si_getR (k := 1) F rfl inT7 (by decide) (by decide) rfl rfl tb_217 dX7_can_71)
  (zc_so (si_getR (k := 2) F rfl inT2 (by decide) (by decide) rfl rfl tb_38 dX7_can_74)
  (zc_so (si_iload_n F dX7_can_77 rfl)
  (zc_so (si_iload F dX7_can_78)
  (zc_so (si_iastore F dX7_can_80)
  (zc_so (si_goto F dX7_can_81 rfl)
  (zc_so (si_aload_n F dX7_can_84 rfl)
  (zc_so (si_getR (k := 1) F rfl inT7 (by decide) (by decide) rfl rfl tb_217 dX7_can_85)
  (zc_so (si_getR (k := 1) F rfl inT2 (by decide) (by decide) rfl rfl tb_36 dX7_can_88)
  (zc_so (si_iload_n F dX7_can_91 rfl)
  (zc_so (si_iload F dX7_can_92)
  (zc_so (si_iastore F dX7_can_94)
  (zc_so (si_aload_n F dX7_can_95 rfl)
  (zc_so (si_cV F (IH 723 mm723) mp723 (by decide) rfl rfl (by decide) tb_528 mi723 ms723 mn723 mc723 dX7_can_96)
  (zc_so (si_ifeq F dX7_can_99 rfl)
  (zc_so (si_iinc F dX7_can_102 rfl)
  (zc_so (si_iload F dX7_can_105)
  (zc_so (si_istore F dX7_can_107)
  (zc_so (si_iinc F dX7_can_109 rfl)
  (zc_so (si_goto F dX7_can_112 rfl)
  (zc_so (si_iload_n F dX7_can_115 rfl)
  (zc_so (si_ifne F dX7_can_116 rfl)
  (zc_so (si_iload F dX7_can_119)
  (zc_so (si_goto F dX7_can_121 rfl)
  (zc_so (si_iload F dX7_can_124)
  (zc_so (si_rI F hQ hn hz hlocks hr (fun _ _ => rfl) dX7_can_126)
  (zc_nil)))))))))))))))))))))))))))))
theorem sd721 (F : zFx p l R s m args meth c D cid kv N0 xs Ls RX7 cX7_can 8 n0 z0 nF zE d) (IH : zAllM l D cid kv N0 xs Ls d) (hQ : ∀ v h, Qq v h → v = r0 ∧ h = hF) (hn : nF = zN hF) (hz : zE = zZ hF) (hlocks : meth.locks = false) (hr : meth.sig.returnType = (some .int)) (pc : Nat) : zSo p l e R s m args below meth c D cid kv N0 xs Ls 8 (MQ below (zQc D cid kv N0 xs Ls ρ0 r0 hF) args s (nF - n0) (zE - z0) (zA N0)) ρ0 n0 z0 nF zE Qq (zCall d) pc (zTab 721 pc) := zc_tab [zt721_0, zt721_1] (zc_cons (sd721_0 F IH hQ hn hz hlocks hr) (zc_cons (sd721_1 F IH hQ hn hz hlocks hr) zc_end))
theorem dX7_places_0 : decode cX7_places 0 = .ok (.aload_n 0, 1) := by decide +kernel
theorem dX7_places_1 : decode cX7_places 1 = .ok (.iload_n 1, 1) := by decide +kernel
theorem dX7_places_2 : decode cX7_places 2 = .ok (.invokevirtual 63, 3) := by decide +kernel
theorem dX7_places_5 : decode cX7_places 5 = .ok (.ifCond .ne 5, 3) := by decide +kernel
theorem dX7_places_8 : decode cX7_places 8 = .ok (.iconst (-1), 1) := by decide +kernel
theorem dX7_places_9 : decode cX7_places 9 = .ok (.ireturn, 1) := by decide +kernel
theorem dX7_places_10 : decode cX7_places 10 = .ok (.iconst 0, 1) := by decide +kernel
theorem dX7_places_11 : decode cX7_places 11 = .ok (.istore_n 2, 1) := by decide +kernel
theorem dX7_places_12 : decode cX7_places 12 = .ok (.iconst 0, 1) := by decide +kernel
theorem dX7_places_13 : decode cX7_places 13 = .ok (.istore_n 3, 1) := by decide +kernel
theorem dX7_places_14 : decode cX7_places 14 = .ok (.iload_n 3, 1) := by decide +kernel
theorem dX7_places_15 : decode cX7_places 15 = .ok (.bipush 10, 2) := by decide +kernel
theorem dX7_places_17 : decode cX7_places 17 = .ok (.if_icmp .gt 42, 3) := by decide +kernel
theorem dX7_places_20 : decode cX7_places 20 = .ok (.aload_n 0, 1) := by decide +kernel
theorem dX7_places_21 : decode cX7_places 21 = .ok (.getfield 18, 3) := by decide +kernel
theorem dX7_places_24 : decode cX7_places 24 = .ok (.aload_n 0, 1) := by decide +kernel
theorem dX7_places_25 : decode cX7_places 25 = .ok (.getfield 12, 3) := by decide +kernel
theorem dX7_places_28 : decode cX7_places 28 = .ok (.invokevirtual 144, 3) := by decide +kernel
theorem dX7_places_31 : decode cX7_places 31 = .ok (.aload_n 0, 1) := by decide +kernel
theorem dX7_places_32 : decode cX7_places 32 = .ok (.getfield 18, 3) := by decide +kernel
theorem dX7_places_35 : decode cX7_places 35 = .ok (.iload_n 1, 1) := by decide +kernel
theorem dX7_places_36 : decode cX7_places 36 = .ok (.iload_n 3, 1) := by decide +kernel
theorem dX7_places_37 : decode cX7_places 37 = .ok (.invokevirtual 94, 3) := by decide +kernel
theorem dX7_places_40 : decode cX7_places 40 = .ok (.aload_n 0, 1) := by decide +kernel
theorem dX7_places_41 : decode cX7_places 41 = .ok (.invokevirtual 188, 3) := by decide +kernel
theorem dX7_places_44 : decode cX7_places 44 = .ok (.ifCond .eq 9, 3) := by decide +kernel
theorem dX7_places_47 : decode cX7_places 47 = .ok (.iload_n 2, 1) := by decide +kernel
theorem dX7_places_48 : decode cX7_places 48 = .ok (.iconst 1, 1) := by decide +kernel
theorem dX7_places_49 : decode cX7_places 49 = .ok (.iload_n 3, 1) := by decide +kernel
theorem dX7_places_50 : decode cX7_places 50 = .ok (.ishl, 1) := by decide +kernel
theorem dX7_places_51 : decode cX7_places 51 = .ok (.ior, 1) := by decide +kernel
theorem dX7_places_52 : decode cX7_places 52 = .ok (.istore_n 2, 1) := by decide +kernel
theorem dX7_places_53 : decode cX7_places 53 = .ok (.iinc 3 1, 3) := by decide +kernel
theorem dX7_places_56 : decode cX7_places 56 = .ok (.goto (-42), 3) := by decide +kernel
theorem dX7_places_59 : decode cX7_places 59 = .ok (.iload_n 2, 1) := by decide +kernel
theorem dX7_places_60 : decode cX7_places 60 = .ok (.ireturn, 1) := by decide +kernel
theorem sd722_0 (F : zFx p l R s m args meth c D cid kv N0 xs Ls RX7 cX7_places 4 n0 z0 nF zE d) (IH : zAllM l D cid kv N0 xs Ls d) (hQ : ∀ v h, Qq v h → v = r0 ∧ h = hF) (hn : nF = zN hF) (hz : zE = zZ hF) (hlocks : meth.locks = false) (hr : meth.sig.returnType = (some .int)) : zSoL p l e R s m args below meth c D cid kv N0 xs Ls 4 (MQ below (zQc D cid kv N0 xs Ls ρ0 r0 hF) args s (nF - n0) (zE - z0) (zA N0)) ρ0 n0 z0 nF zE Qq (zCall d) zt722_0 := zc_so (si_aload_n F dX7_places_0 rfl)
  (zc_so (si_iload_n F dX7_places_1 rfl)
  (zc_so (si_cV F (IH 743 mm743) mp743 (by decide) rfl rfl (by decide) tb_266 mi743 ms743 mn743 mc743 dX7_places_2)
  (zc_so (si_ifne F dX7_places_5 rfl)
  (zc_so (si_iconst F dX7_places_8 rfl)
  (zc_so (si_rI F hQ hn hz hlocks hr (fun _ _ => rfl) dX7_places_9)
  (zc_so (si_iconst F dX7_places_10 rfl)
  (zc_so (si_istore_n F dX7_places_11 rfl)
  (zc_so (si_iconst F dX7_places_12 rfl)
  (zc_so (si_istore_n F dX7_places_13 rfl)
  (zc_so (si_iload_n F dX7_places_14 rfl)
  (zc_so (si_bipush F dX7_places_15 rfl)
  (zc_so (si_icgt F dX7_places_17 rfl)
  (zc_so (si_aload_n F dX7_places_20 rfl)
  (zc_so (si_getR (k := 1) F rfl inT7 (by decide) (by decide) rfl rfl tb_217 dX7_places_21)
  (zc_so (si_aload_n F dX7_places_24 rfl)
  (zc_so (si_getR (k := 0) F rfl inT7 (by decide) (by decide) rfl rfl tb_216 dX7_places_25)
  (zc_so (si_cV F (IH 202 mm202) mp202 (by decide) rfl rfl (by decide) tb_304 mi202 ms202 mn202 mc202 dX7_places_28)
  (zc_so (si_aload_n F dX7_places_31 rfl)
  (zc_so (si_getR (k := 1) F rfl inT7 (by decide) (by decide) rfl rfl tb_217 dX7_places_32)
  (zc_so (si_iload_n F dX7_places_35 rfl)
  (zc_so (si_iload_n F dX7_places_36 rfl)
  (zc_so (si_cV F (IH 204 mm204) mp204 (by decide) rfl rfl (by decide) tb_325 mi204 ms204 mn204 mc204 dX7_places_37)
  (zc_so (si_aload_n F dX7_places_40 rfl)
  (zc_so (si_cV F (IH 723 mm723) mp723 (by decide) rfl rfl (by decide) tb_528 mi723 ms723 mn723 mc723 dX7_places_41)
  (zc_so (si_ifeq F dX7_places_44 rfl)
  (zc_so (si_iload_n F dX7_places_47 rfl)
  (zc_so (si_iconst F dX7_places_48 rfl)
  (zc_so (si_iload_n F dX7_places_49 rfl)
  (zc_so (si_ishl F dX7_places_50)
  (zc_so (si_ior F dX7_places_51)
  (zc_so (si_istore_n F dX7_places_52 rfl)
  (zc_so (si_iinc F dX7_places_53 rfl)
  (zc_so (si_goto F dX7_places_56 rfl)
  (zc_so (si_iload_n F dX7_places_59 rfl)
  (zc_so (si_rI F hQ hn hz hlocks hr (fun _ _ => rfl) dX7_places_60)
  (zc_nil))))))))))))))))))))))))))))))))))))
theorem sd722 (F : zFx p l R s m args meth c D cid kv N0 xs Ls RX7 cX7_places 4 n0 z0 nF zE d) (IH : zAllM l D cid kv N0 xs Ls d) (hQ : ∀ v h, Qq v h → v = r0 ∧ h = hF) (hn : nF = zN hF) (hz : zE = zZ hF) (hlocks : meth.locks = false) (hr : meth.sig.returnType = (some .int)) (pc : Nat) : zSo p l e R s m args below meth c D cid kv N0 xs Ls 4 (MQ below (zQc D cid kv N0 xs Ls ρ0 r0 hF) args s (nF - n0) (zE - z0) (zA N0)) ρ0 n0 z0 nF zE Qq (zCall d) pc (zTab 722 pc) := zc_tab [zt722_0] (zc_cons (sd722_0 F IH hQ hn hz hlocks hr) zc_end)
theorem dX7_seenComesTrue_0 : decode cX7_seenComesTrue 0 = .ok (.aload_n 0, 1) := by decide +kernel
theorem dX7_seenComesTrue_1 : decode cX7_seenComesTrue 1 = .ok (.getfield 27, 3) := by decide +kernel
theorem dX7_seenComesTrue_4 : decode cX7_seenComesTrue 4 = .ok (.invokevirtual 192, 3) := by decide +kernel
theorem dX7_seenComesTrue_7 : decode cX7_seenComesTrue 7 = .ok (.istore_n 1, 1) := by decide +kernel
theorem dX7_seenComesTrue_8 : decode cX7_seenComesTrue 8 = .ok (.iconst 0, 1) := by decide +kernel
theorem dX7_seenComesTrue_9 : decode cX7_seenComesTrue 9 = .ok (.istore_n 2, 1) := by decide +kernel
theorem dX7_seenComesTrue_10 : decode cX7_seenComesTrue 10 = .ok (.iload_n 2, 1) := by decide +kernel
theorem dX7_seenComesTrue_11 : decode cX7_seenComesTrue 11 = .ok (.iload_n 1, 1) := by decide +kernel
theorem dX7_seenComesTrue_12 : decode cX7_seenComesTrue 12 = .ok (.if_icmp .gt 34, 3) := by decide +kernel
theorem dX7_seenComesTrue_15 : decode cX7_seenComesTrue 15 = .ok (.aload_n 0, 1) := by decide +kernel
theorem dX7_seenComesTrue_16 : decode cX7_seenComesTrue 16 = .ok (.getfield 27, 3) := by decide +kernel
theorem dX7_seenComesTrue_19 : decode cX7_seenComesTrue 19 = .ok (.aload_n 0, 1) := by decide +kernel
theorem dX7_seenComesTrue_20 : decode cX7_seenComesTrue 20 = .ok (.getfield 18, 3) := by decide +kernel
theorem dX7_seenComesTrue_23 : decode cX7_seenComesTrue 23 = .ok (.iload_n 2, 1) := by decide +kernel
theorem dX7_seenComesTrue_24 : decode cX7_seenComesTrue 24 = .ok (.invokevirtual 195, 3) := by decide +kernel
theorem dX7_seenComesTrue_27 : decode cX7_seenComesTrue 27 = .ok (.ifCond .eq 5, 3) := by decide +kernel
theorem dX7_seenComesTrue_30 : decode cX7_seenComesTrue 30 = .ok (.iconst 0, 1) := by decide +kernel
theorem dX7_seenComesTrue_31 : decode cX7_seenComesTrue 31 = .ok (.ireturn, 1) := by decide +kernel
theorem dX7_seenComesTrue_32 : decode cX7_seenComesTrue 32 = .ok (.aload_n 0, 1) := by decide +kernel
theorem dX7_seenComesTrue_33 : decode cX7_seenComesTrue 33 = .ok (.getfield 18, 3) := by decide +kernel
theorem dX7_seenComesTrue_36 : decode cX7_seenComesTrue 36 = .ok (.iconst 1, 1) := by decide +kernel
theorem dX7_seenComesTrue_37 : decode cX7_seenComesTrue 37 = .ok (.invokevirtual 140, 3) := by decide +kernel
theorem dX7_seenComesTrue_40 : decode cX7_seenComesTrue 40 = .ok (.iinc 2 1, 3) := by decide +kernel
theorem dX7_seenComesTrue_43 : decode cX7_seenComesTrue 43 = .ok (.goto (-33), 3) := by decide +kernel
theorem dX7_seenComesTrue_46 : decode cX7_seenComesTrue 46 = .ok (.iconst 1, 1) := by decide +kernel
theorem dX7_seenComesTrue_47 : decode cX7_seenComesTrue 47 = .ok (.ireturn, 1) := by decide +kernel
theorem sd723_0 (F : zFx p l R s m args meth c D cid kv N0 xs Ls RX7 cX7_seenComesTrue 3 n0 z0 nF zE d) (IH : zAllM l D cid kv N0 xs Ls d) (hQ : ∀ v h, Qq v h → v = r0 ∧ h = hF) (hn : nF = zN hF) (hz : zE = zZ hF) (hlocks : meth.locks = false) (hr : meth.sig.returnType = (some .boolean)) : zSoL p l e R s m args below meth c D cid kv N0 xs Ls 3 (MQ below (zQc D cid kv N0 xs Ls ρ0 r0 hF) args s (nF - n0) (zE - z0) (zA N0)) ρ0 n0 z0 nF zE Qq (zCall d) zt723_0 := zc_so (si_aload_n F dX7_seenComesTrue_0 rfl)
  (zc_so (si_getR (k := 3) F rfl inT7 (by decide) (by decide) rfl rfl tb_219 dX7_seenComesTrue_1)
  (zc_so (si_cV F (IH 103 mm103) mp103 (by decide) rfl rfl (by decide) tb_532 mi103 ms103 mn103 mc103 dX7_seenComesTrue_4)
  (zc_so (si_istore_n F dX7_seenComesTrue_7 rfl)
  (zc_so (si_iconst F dX7_seenComesTrue_8 rfl)
  (zc_so (si_istore_n F dX7_seenComesTrue_9 rfl)
  (zc_so (si_iload_n F dX7_seenComesTrue_10 rfl)
  (zc_so (si_iload_n F dX7_seenComesTrue_11 rfl)
  (zc_so (si_icgt F dX7_seenComesTrue_12 rfl)
  (zc_so (si_aload_n F dX7_seenComesTrue_15 rfl)
  (zc_so (si_getR (k := 3) F rfl inT7 (by decide) (by decide) rfl rfl tb_219 dX7_seenComesTrue_16)
  (zc_so (si_aload_n F dX7_seenComesTrue_19 rfl)
  (zc_so (si_getR (k := 1) F rfl inT7 (by decide) (by decide) rfl rfl tb_217 dX7_seenComesTrue_20)
  (zc_so (si_iload_n F dX7_seenComesTrue_23 rfl)
  (zc_so (si_cV F (IH 104 mm104) mp104 (by decide) rfl rfl (by decide) tb_537 mi104 ms104 mn104 mc104 dX7_seenComesTrue_24)
  (zc_so (si_ifeq F dX7_seenComesTrue_27 rfl)
  (zc_so (si_iconst F dX7_seenComesTrue_30 rfl)
  (zc_so (si_rI F hQ hn hz hlocks hr (fun x h => by rcases h with rfl | rfl <;> rfl) dX7_seenComesTrue_31)
  (zc_so (si_aload_n F dX7_seenComesTrue_32 rfl)
  (zc_so (si_getR (k := 1) F rfl inT7 (by decide) (by decide) rfl rfl tb_217 dX7_seenComesTrue_33)
  (zc_so (si_iconst F dX7_seenComesTrue_36 rfl)
  (zc_so (si_cV F (IH 210 mm210) mp210 (by decide) rfl rfl (by decide) tb_308 mi210 ms210 mn210 mc210 dX7_seenComesTrue_37)
  (zc_so (si_iinc F dX7_seenComesTrue_40 rfl)
  (zc_so (si_goto F dX7_seenComesTrue_43 rfl)
  (zc_so (si_iconst F dX7_seenComesTrue_46 rfl)
  (zc_so (si_rI F hQ hn hz hlocks hr (fun x h => by rcases h with rfl | rfl <;> rfl) dX7_seenComesTrue_47)
  (zc_nil))))))))))))))))))))))))))
theorem sd723 (F : zFx p l R s m args meth c D cid kv N0 xs Ls RX7 cX7_seenComesTrue 3 n0 z0 nF zE d) (IH : zAllM l D cid kv N0 xs Ls d) (hQ : ∀ v h, Qq v h → v = r0 ∧ h = hF) (hn : nF = zN hF) (hz : zE = zZ hF) (hlocks : meth.locks = false) (hr : meth.sig.returnType = (some .boolean)) (pc : Nat) : zSo p l e R s m args below meth c D cid kv N0 xs Ls 3 (MQ below (zQc D cid kv N0 xs Ls ρ0 r0 hF) args s (nF - n0) (zE - z0) (zA N0)) ρ0 n0 z0 nF zE Qq (zCall d) pc (zTab 723 pc) := zc_tab [zt723_0] (zc_cons (sd723_0 F IH hQ hn hz hlocks hr) zc_end)
theorem dX7_odds_0 : decode cX7_odds 0 = .ok (.aload_n 0, 1) := by decide +kernel
theorem dX7_odds_1 : decode cX7_odds 1 = .ok (.iload_n 1, 1) := by decide +kernel
theorem dX7_odds_2 : decode cX7_odds 2 = .ok (.invokevirtual 63, 3) := by decide +kernel
theorem dX7_odds_5 : decode cX7_odds 5 = .ok (.ifCond .eq 20, 3) := by decide +kernel
theorem dX7_odds_8 : decode cX7_odds 8 = .ok (.iload_n 2, 1) := by decide +kernel
theorem dX7_odds_9 : decode cX7_odds 9 = .ok (.bipush 60, 2) := by decide +kernel
theorem dX7_odds_11 : decode cX7_odds 11 = .ok (.invokestatic 55, 3) := by decide +kernel
theorem dX7_odds_14 : decode cX7_odds 14 = .ok (.ifCond .eq 11, 3) := by decide +kernel
theorem dX7_odds_17 : decode cX7_odds 17 = .ok (.iload_n 3, 1) := by decide +kernel
theorem dX7_odds_18 : decode cX7_odds 18 = .ok (.iconst 1, 1) := by decide +kernel
theorem dX7_odds_19 : decode cX7_odds 19 = .ok (.invokestatic 55, 3) := by decide +kernel
theorem dX7_odds_22 : decode cX7_odds 22 = .ok (.ifCond .ne 7, 3) := by decide +kernel
theorem dX7_odds_25 : decode cX7_odds 25 = .ok (.ldc2_w 199, 3) := by decide +kernel
theorem dX7_odds_28 : decode cX7_odds 28 = .ok (.lreturn, 1) := by decide +kernel
theorem dX7_odds_29 : decode cX7_odds 29 = .ok (.iconst 0, 1) := by decide +kernel
theorem dX7_odds_30 : decode cX7_odds 30 = .ok (.istore 4, 2) := by decide +kernel
theorem dX7_odds_32 : decode cX7_odds 32 = .ok (.iconst 0, 1) := by decide +kernel
theorem dX7_odds_33 : decode cX7_odds 33 = .ok (.istore 5, 2) := by decide +kernel
theorem dX7_odds_35 : decode cX7_odds 35 = .ok (.iload 5, 2) := by decide +kernel
theorem dX7_odds_37 : decode cX7_odds 37 = .ok (.bipush 20, 2) := by decide +kernel
theorem dX7_odds_39 : decode cX7_odds 39 = .ok (.if_icmp .gt 54, 3) := by decide +kernel
theorem dX7_odds_42 : decode cX7_odds 42 = .ok (.aload_n 0, 1) := by decide +kernel
theorem dX7_odds_43 : decode cX7_odds 43 = .ok (.getfield 18, 3) := by decide +kernel
theorem dX7_odds_46 : decode cX7_odds 46 = .ok (.aload_n 0, 1) := by decide +kernel
theorem dX7_odds_47 : decode cX7_odds 47 = .ok (.getfield 12, 3) := by decide +kernel
theorem dX7_odds_50 : decode cX7_odds 50 = .ok (.invokevirtual 144, 3) := by decide +kernel
theorem dX7_odds_53 : decode cX7_odds 53 = .ok (.aload_n 0, 1) := by decide +kernel
theorem dX7_odds_54 : decode cX7_odds 54 = .ok (.getfield 18, 3) := by decide +kernel
theorem dX7_odds_57 : decode cX7_odds 57 = .ok (.iload 5, 2) := by decide +kernel
theorem dX7_odds_59 : decode cX7_odds 59 = .ok (.putfield 161, 3) := by decide +kernel
theorem dX7_odds_62 : decode cX7_odds 62 = .ok (.aload_n 0, 1) := by decide +kernel
theorem dX7_odds_63 : decode cX7_odds 63 = .ok (.getfield 18, 3) := by decide +kernel
theorem dX7_odds_66 : decode cX7_odds 66 = .ok (.iload_n 2, 1) := by decide +kernel
theorem dX7_odds_67 : decode cX7_odds 67 = .ok (.invokevirtual 140, 3) := by decide +kernel
theorem dX7_odds_70 : decode cX7_odds 70 = .ok (.aload_n 0, 1) := by decide +kernel
theorem dX7_odds_71 : decode cX7_odds 71 = .ok (.getfield 18, 3) := by decide +kernel
theorem dX7_odds_74 : decode cX7_odds 74 = .ok (.getfield 77, 3) := by decide +kernel
theorem dX7_odds_77 : decode cX7_odds 77 = .ok (.iload_n 1, 1) := by decide +kernel
theorem dX7_odds_78 : decode cX7_odds 78 = .ok (.iaload, 1) := by decide +kernel
theorem dX7_odds_79 : decode cX7_odds 79 = .ok (.bipush 10, 2) := by decide +kernel
theorem dX7_odds_81 : decode cX7_odds 81 = .ok (.if_icmp .ne 6, 3) := by decide +kernel
theorem dX7_odds_84 : decode cX7_odds 84 = .ok (.iinc 4 1, 3) := by decide +kernel
theorem dX7_odds_87 : decode cX7_odds 87 = .ok (.iinc 5 1, 3) := by decide +kernel
theorem dX7_odds_90 : decode cX7_odds 90 = .ok (.goto (-55), 3) := by decide +kernel
theorem dX7_odds_93 : decode cX7_odds 93 = .ok (.iload 4, 2) := by decide +kernel
theorem dX7_odds_95 : decode cX7_odds 95 = .ok (.bipush 21, 2) := by decide +kernel
theorem dX7_odds_97 : decode cX7_odds 97 = .ok (.iload_n 3, 1) := by decide +kernel
theorem dX7_odds_98 : decode cX7_odds 98 = .ok (.invokestatic 201, 3) := by decide +kernel
theorem dX7_odds_101 : decode cX7_odds 101 = .ok (.lreturn, 1) := by decide +kernel
theorem sd724_0 (F : zFx p l R s m args meth c D cid kv N0 xs Ls RX7 cX7_odds 6 n0 z0 nF zE d) (IH : zAllM l D cid kv N0 xs Ls d) (hQ : ∀ v h, Qq v h → v = r0 ∧ h = hF) (hn : nF = zN hF) (hz : zE = zZ hF) (hlocks : meth.locks = false) (hr : meth.sig.returnType = (some .long)) : zSoL p l e R s m args below meth c D cid kv N0 xs Ls 6 (MQ below (zQc D cid kv N0 xs Ls ρ0 r0 hF) args s (nF - n0) (zE - z0) (zA N0)) ρ0 n0 z0 nF zE Qq (zCall d) zt724_0 := zc_so (si_aload_n F dX7_odds_0 rfl)
  (zc_so (si_iload_n F dX7_odds_1 rfl)
  (zc_so (si_cV F (IH 743 mm743) mp743 (by decide) rfl rfl (by decide) tb_266 mi743 ms743 mn743 mc743 dX7_odds_2)
  (zc_so (si_ifeq F dX7_odds_5 rfl)
  (zc_so (si_iload_n F dX7_odds_8 rfl)
  (zc_so (si_bipush F dX7_odds_9 rfl)
  (zc_so (si_cS  F (IH 744 mm744) mp744 (by decide) tb_251 mi744 mn744 mc744 dX7_odds_11)
  (zc_so (si_ifeq F dX7_odds_14 rfl)
  (zc_so (si_iload_n F dX7_odds_17 rfl)
  (zc_so (si_iconst F dX7_odds_18 rfl)
  (zc_so (si_cS  F (IH 744 mm744) mp744 (by decide) tb_251 mi744 mn744 mc744 dX7_odds_19)
  (zc_so (si_ifne F dX7_odds_22 rfl)
  (zc_so (si_ldc2_w F dX7_odds_25 tb_554)
  (zc_so (si_rJ F hQ hn hz hlocks hr dX7_odds_28)
  (zc_so (si_iconst F dX7_odds_29 rfl)
  (zc_so (si_istore F dX7_odds_30)
  (zc_so (si_iconst F dX7_odds_32 rfl)
  (zc_so (si_istore F dX7_odds_33)
  (zc_so (si_iload F dX7_odds_35)
  (zc_so (si_bipush F dX7_odds_37 rfl)
  (zc_so (si_icgt F dX7_odds_39 rfl)
  (zc_so (si_aload_n F dX7_odds_42 rfl)
  (zc_so (si_getR (k := 1) F rfl inT7 (by decide) (by decide) rfl rfl tb_217 dX7_odds_43)
  (zc_so (si_aload_n F dX7_odds_46 rfl)
  (zc_so (si_getR (k := 0) F rfl inT7 (by decide) (by decide) rfl rfl tb_216 dX7_odds_47)
  (zc_so (si_cV F (IH 202 mm202) mp202 (by decide) rfl rfl (by decide) tb_304 mi202 ms202 mn202 mc202 dX7_odds_50)
  (zc_so (si_aload_n F dX7_odds_53 rfl)
  (zc_so (si_getR (k := 1) F rfl inT7 (by decide) (by decide) rfl rfl tb_217 dX7_odds_54)
  (zc_so (si_iload F dX7_odds_57)
  (zc_so (si_putI (k := 11) F rfl inT2 (by decide) (by decide) rfl rfl rfl rfl tyX2_ok nmX2 tb_56 dX7_odds_59)
  (zc_so (si_aload_n F dX7_odds_62 rfl)
  (zc_so (si_getR (k := 1) F rfl inT7 (by decide) (by decide) rfl rfl tb_217 dX7_odds_63)
  (zc_nil))))))))))))))))))))))))))))))))
theorem sd724_1 (F : zFx p l R s m args meth c D cid kv N0 xs Ls RX7 cX7_odds 6 n0 z0 nF zE d) (IH : zAllM l D cid kv N0 xs Ls d) (hQ : ∀ v h, Qq v h → v = r0 ∧ h = hF) (hn : nF = zN hF) (hz : zE = zZ hF) (hlocks : meth.locks = false) (hr : meth.sig.returnType = (some .long)) : zSoL p l e R s m args below meth c D cid kv N0 xs Ls 6 (MQ below (zQc D cid kv N0 xs Ls ρ0 r0 hF) args s (nF - n0) (zE - z0) (zA N0)) ρ0 n0 z0 nF zE Qq (zCall d) zt724_1 := zc_so (si_iload_n F dX7_odds_66 rfl)
  (zc_so (si_cV F (IH 210 mm210) mp210 (by decide) rfl rfl (by decide) tb_308 mi210 ms210 mn210 mc210 dX7_odds_67)
  (zc_so (si_aload_n F dX7_odds_70 rfl)
  (zc_so (si_getR (k := 1) F rfl inT7 (by decide) (by decide) rfl rfl tb_217 dX7_odds_71)
  (zc_so (si_getR (k := 3) F rfl inT2 (by decide) (by decide) rfl rfl tb_40 dX7_odds_74)
  (zc_so (si_iload_n F dX7_odds_77 rfl)
  (zc_so (si_iaload F dX7_odds_78)
  (zc_so (si_bipush F dX7_odds_79 rfl)
  (zc_so (si_icne F dX7_odds_81 rfl)
  (zc_so (si_iinc F dX7_odds_84 rfl)
  (zc_so (si_iinc F dX7_odds_87 rfl)
  (zc_so (si_goto F dX7_odds_90 rfl)
  (zc_so (si_iload F dX7_odds_93)
  (zc_so (si_bipush F dX7_odds_95 rfl)
  (zc_so (si_iload_n F dX7_odds_97 rfl)
  (zc_so (si_cS  F (IH 726 mm726) mp726 (by decide) tb_555 mi726 mn726 mc726 dX7_odds_98)
  (zc_so (si_rJ F hQ hn hz hlocks hr dX7_odds_101)
  (zc_nil)))))))))))))))))
theorem sd724 (F : zFx p l R s m args meth c D cid kv N0 xs Ls RX7 cX7_odds 6 n0 z0 nF zE d) (IH : zAllM l D cid kv N0 xs Ls d) (hQ : ∀ v h, Qq v h → v = r0 ∧ h = hF) (hn : nF = zN hF) (hz : zE = zZ hF) (hlocks : meth.locks = false) (hr : meth.sig.returnType = (some .long)) (pc : Nat) : zSo p l e R s m args below meth c D cid kv N0 xs Ls 6 (MQ below (zQc D cid kv N0 xs Ls ρ0 r0 hF) args s (nF - n0) (zE - z0) (zA N0)) ρ0 n0 z0 nF zE Qq (zCall d) pc (zTab 724 pc) := zc_tab [zt724_0, zt724_1] (zc_cons (sd724_0 F IH hQ hn hz hlocks hr) (zc_cons (sd724_1 F IH hQ hn hz hlocks hr) zc_end))
theorem dX7_mean_0 : decode cX7_mean 0 = .ok (.iload_n 1, 1) := by decide +kernel
theorem dX7_mean_1 : decode cX7_mean 1 = .ok (.bipush 60, 2) := by decide +kernel
theorem dX7_mean_3 : decode cX7_mean 3 = .ok (.invokestatic 55, 3) := by decide +kernel
theorem dX7_mean_6 : decode cX7_mean 6 = .ok (.ifCond .eq 21, 3) := by decide +kernel
theorem dX7_mean_9 : decode cX7_mean 9 = .ok (.iload_n 2, 1) := by decide +kernel
theorem dX7_mean_10 : decode cX7_mean 10 = .ok (.iconst 1, 1) := by decide +kernel
theorem dX7_mean_11 : decode cX7_mean 11 = .ok (.invokestatic 55, 3) := by decide +kernel
theorem dX7_mean_14 : decode cX7_mean 14 = .ok (.ifCond .eq 13, 3) := by decide +kernel
theorem dX7_mean_17 : decode cX7_mean 17 = .ok (.aload_n 0, 1) := by decide +kernel
theorem dX7_mean_18 : decode cX7_mean 18 = .ok (.getfield 12, 3) := by decide +kernel
theorem dX7_mean_21 : decode cX7_mean 21 = .ok (.getfield 169, 3) := by decide +kernel
theorem dX7_mean_24 : decode cX7_mean 24 = .ok (.ifCond .ne 7, 3) := by decide +kernel
theorem dX7_mean_27 : decode cX7_mean 27 = .ok (.ldc2_w 199, 3) := by decide +kernel
theorem dX7_mean_30 : decode cX7_mean 30 = .ok (.lreturn, 1) := by decide +kernel
theorem dX7_mean_31 : decode cX7_mean 31 = .ok (.aload_n 0, 1) := by decide +kernel
theorem dX7_mean_32 : decode cX7_mean 32 = .ok (.getfield 18, 3) := by decide +kernel
theorem dX7_mean_35 : decode cX7_mean 35 = .ok (.aload_n 0, 1) := by decide +kernel
theorem dX7_mean_36 : decode cX7_mean 36 = .ok (.getfield 12, 3) := by decide +kernel
theorem dX7_mean_39 : decode cX7_mean 39 = .ok (.invokevirtual 144, 3) := by decide +kernel
theorem dX7_mean_42 : decode cX7_mean 42 = .ok (.aload_n 0, 1) := by decide +kernel
theorem dX7_mean_43 : decode cX7_mean 43 = .ok (.getfield 18, 3) := by decide +kernel
theorem dX7_mean_46 : decode cX7_mean 46 = .ok (.iload_n 1, 1) := by decide +kernel
theorem dX7_mean_47 : decode cX7_mean 47 = .ok (.invokevirtual 140, 3) := by decide +kernel
theorem dX7_mean_50 : decode cX7_mean 50 = .ok (.iconst 0, 1) := by decide +kernel
theorem dX7_mean_51 : decode cX7_mean 51 = .ok (.istore_n 3, 1) := by decide +kernel
theorem dX7_mean_52 : decode cX7_mean 52 = .ok (.iconst 0, 1) := by decide +kernel
theorem dX7_mean_53 : decode cX7_mean 53 = .ok (.istore 4, 2) := by decide +kernel
theorem dX7_mean_55 : decode cX7_mean 55 = .ok (.iload 4, 2) := by decide +kernel
theorem dX7_mean_57 : decode cX7_mean 57 = .ok (.aload_n 0, 1) := by decide +kernel
theorem dX7_mean_58 : decode cX7_mean 58 = .ok (.getfield 18, 3) := by decide +kernel
theorem dX7_mean_61 : decode cX7_mean 61 = .ok (.getfield 169, 3) := by decide +kernel
theorem dX7_mean_64 : decode cX7_mean 64 = .ok (.if_icmp .ge 22, 3) := by decide +kernel
theorem dX7_mean_67 : decode cX7_mean 67 = .ok (.iload_n 3, 1) := by decide +kernel
theorem dX7_mean_68 : decode cX7_mean 68 = .ok (.aload_n 0, 1) := by decide +kernel
theorem dX7_mean_69 : decode cX7_mean 69 = .ok (.getfield 18, 3) := by decide +kernel
theorem dX7_mean_72 : decode cX7_mean 72 = .ok (.getfield 84, 3) := by decide +kernel
theorem dX7_mean_75 : decode cX7_mean 75 = .ok (.iload 4, 2) := by decide +kernel
theorem dX7_mean_77 : decode cX7_mean 77 = .ok (.iaload, 1) := by decide +kernel
theorem dX7_mean_78 : decode cX7_mean 78 = .ok (.iadd, 1) := by decide +kernel
theorem dX7_mean_79 : decode cX7_mean 79 = .ok (.istore_n 3, 1) := by decide +kernel
theorem dX7_mean_80 : decode cX7_mean 80 = .ok (.iinc 4 1, 3) := by decide +kernel
theorem dX7_mean_83 : decode cX7_mean 83 = .ok (.goto (-28), 3) := by decide +kernel
theorem dX7_mean_86 : decode cX7_mean 86 = .ok (.iload_n 3, 1) := by decide +kernel
theorem dX7_mean_87 : decode cX7_mean 87 = .ok (.aload_n 0, 1) := by decide +kernel
theorem dX7_mean_88 : decode cX7_mean 88 = .ok (.getfield 18, 3) := by decide +kernel
theorem dX7_mean_91 : decode cX7_mean 91 = .ok (.getfield 169, 3) := by decide +kernel
theorem dX7_mean_94 : decode cX7_mean 94 = .ok (.iload_n 2, 1) := by decide +kernel
theorem dX7_mean_95 : decode cX7_mean 95 = .ok (.invokestatic 201, 3) := by decide +kernel
theorem dX7_mean_98 : decode cX7_mean 98 = .ok (.lreturn, 1) := by decide +kernel
theorem sd725_0 (F : zFx p l R s m args meth c D cid kv N0 xs Ls RX7 cX7_mean 5 n0 z0 nF zE d) (IH : zAllM l D cid kv N0 xs Ls d) (hQ : ∀ v h, Qq v h → v = r0 ∧ h = hF) (hn : nF = zN hF) (hz : zE = zZ hF) (hlocks : meth.locks = false) (hr : meth.sig.returnType = (some .long)) : zSoL p l e R s m args below meth c D cid kv N0 xs Ls 5 (MQ below (zQc D cid kv N0 xs Ls ρ0 r0 hF) args s (nF - n0) (zE - z0) (zA N0)) ρ0 n0 z0 nF zE Qq (zCall d) zt725_0 := zc_so (si_iload_n F dX7_mean_0 rfl)
  (zc_so (si_bipush F dX7_mean_1 rfl)
  (zc_so (si_cS  F (IH 744 mm744) mp744 (by decide) tb_251 mi744 mn744 mc744 dX7_mean_3)
  (zc_so (si_ifeq F dX7_mean_6 rfl)
  (zc_so (si_iload_n F dX7_mean_9 rfl)
  (zc_so (si_iconst F dX7_mean_10 rfl)
  (zc_so (si_cS  F (IH 744 mm744) mp744 (by decide) tb_251 mi744 mn744 mc744 dX7_mean_11)
  (zc_so (si_ifeq F dX7_mean_14 rfl)
  (zc_so (si_aload_n F dX7_mean_17 rfl)
  (zc_so (si_getR (k := 0) F rfl inT7 (by decide) (by decide) rfl rfl tb_216 dX7_mean_18)
  (zc_so (si_getI (k := 7) F rfl inT2 (by decide) (by decide) rfl rfl tb_48 dX7_mean_21)
  (zc_so (si_ifne F dX7_mean_24 rfl)
  (zc_so (si_ldc2_w F dX7_mean_27 tb_554)
  (zc_so (si_rJ F hQ hn hz hlocks hr dX7_mean_30)
  (zc_so (si_aload_n F dX7_mean_31 rfl)
  (zc_so (si_getR (k := 1) F rfl inT7 (by decide) (by decide) rfl rfl tb_217 dX7_mean_32)
  (zc_so (si_aload_n F dX7_mean_35 rfl)
  (zc_so (si_getR (k := 0) F rfl inT7 (by decide) (by decide) rfl rfl tb_216 dX7_mean_36)
  (zc_so (si_cV F (IH 202 mm202) mp202 (by decide) rfl rfl (by decide) tb_304 mi202 ms202 mn202 mc202 dX7_mean_39)
  (zc_so (si_aload_n F dX7_mean_42 rfl)
  (zc_so (si_getR (k := 1) F rfl inT7 (by decide) (by decide) rfl rfl tb_217 dX7_mean_43)
  (zc_so (si_iload_n F dX7_mean_46 rfl)
  (zc_so (si_cV F (IH 210 mm210) mp210 (by decide) rfl rfl (by decide) tb_308 mi210 ms210 mn210 mc210 dX7_mean_47)
  (zc_so (si_iconst F dX7_mean_50 rfl)
  (zc_so (si_istore_n F dX7_mean_51 rfl)
  (zc_so (si_iconst F dX7_mean_52 rfl)
  (zc_so (si_istore F dX7_mean_53)
  (zc_so (si_iload F dX7_mean_55)
  (zc_so (si_aload_n F dX7_mean_57 rfl)
  (zc_so (si_getR (k := 1) F rfl inT7 (by decide) (by decide) rfl rfl tb_217 dX7_mean_58)
  (zc_so (si_getI (k := 7) F rfl inT2 (by decide) (by decide) rfl rfl tb_48 dX7_mean_61)
  (zc_nil)))))))))))))))))))))))))))))))
theorem sd725_1 (F : zFx p l R s m args meth c D cid kv N0 xs Ls RX7 cX7_mean 5 n0 z0 nF zE d) (IH : zAllM l D cid kv N0 xs Ls d) (hQ : ∀ v h, Qq v h → v = r0 ∧ h = hF) (hn : nF = zN hF) (hz : zE = zZ hF) (hlocks : meth.locks = false) (hr : meth.sig.returnType = (some .long)) : zSoL p l e R s m args below meth c D cid kv N0 xs Ls 5 (MQ below (zQc D cid kv N0 xs Ls ρ0 r0 hF) args s (nF - n0) (zE - z0) (zA N0)) ρ0 n0 z0 nF zE Qq (zCall d) zt725_1 := zc_so (si_icge F dX7_mean_64 rfl)
  (zc_so (si_iload_n F dX7_mean_67 rfl)
  (zc_so (si_aload_n F dX7_mean_68 rfl)
  (zc_so (si_getR (k := 1) F rfl inT7 (by decide) (by decide) rfl rfl tb_217 dX7_mean_69)
  (zc_so (si_getR (k := 4) F rfl inT2 (by decide) (by decide) rfl rfl tb_42 dX7_mean_72)
  (zc_so (si_iload F dX7_mean_75)
  (zc_so (si_iaload F dX7_mean_77)
  (zc_so (si_iadd F dX7_mean_78)
  (zc_so (si_istore_n F dX7_mean_79 rfl)
  (zc_so (si_iinc F dX7_mean_80 rfl)
  (zc_so (si_goto F dX7_mean_83 rfl)
  (zc_so (si_iload_n F dX7_mean_86 rfl)
  (zc_so (si_aload_n F dX7_mean_87 rfl)
  (zc_so (si_getR (k := 1) F rfl inT7 (by decide) (by decide) rfl rfl tb_217 dX7_mean_88)
  (zc_so (si_getI (k := 7) F rfl inT2 (by decide) (by decide) rfl rfl tb_48 dX7_mean_91)
  (zc_so (si_iload_n F dX7_mean_94 rfl)
  (zc_so (si_cS  F (IH 726 mm726) mp726 (by decide) tb_555 mi726 mn726 mc726 dX7_mean_95)
  (zc_so (si_rJ F hQ hn hz hlocks hr dX7_mean_98)
  (zc_nil))))))))))))))))))
theorem sd725 (F : zFx p l R s m args meth c D cid kv N0 xs Ls RX7 cX7_mean 5 n0 z0 nF zE d) (IH : zAllM l D cid kv N0 xs Ls d) (hQ : ∀ v h, Qq v h → v = r0 ∧ h = hF) (hn : nF = zN hF) (hz : zE = zZ hF) (hlocks : meth.locks = false) (hr : meth.sig.returnType = (some .long)) (pc : Nat) : zSo p l e R s m args below meth c D cid kv N0 xs Ls 5 (MQ below (zQc D cid kv N0 xs Ls ρ0 r0 hF) args s (nF - n0) (zE - z0) (zA N0)) ρ0 n0 z0 nF zE Qq (zCall d) pc (zTab 725 pc) := zc_tab [zt725_0, zt725_1] (zc_cons (sd725_0 F IH hQ hn hz hlocks hr) (zc_cons (sd725_1 F IH hQ hn hz hlocks hr) zc_end))
theorem dX7_partOf_0 : decode cX7_partOf 0 = .ok (.iconst 1, 1) := by decide +kernel
theorem dX7_partOf_1 : decode cX7_partOf 1 = .ok (.istore_n 3, 1) := by decide +kernel
theorem dX7_partOf_2 : decode cX7_partOf 2 = .ok (.iconst 2, 1) := by decide +kernel
theorem dX7_partOf_3 : decode cX7_partOf 3 = .ok (.istore 4, 2) := by decide +kernel
theorem dX7_partOf_5 : decode cX7_partOf 5 = .ok (.iload 4, 2) := by decide +kernel
theorem dX7_partOf_7 : decode cX7_partOf 7 = .ok (.iload_n 1, 1) := by decide +kernel
theorem dX7_partOf_8 : decode cX7_partOf 8 = .ok (.if_icmp .gt 26, 3) := by decide +kernel
theorem dX7_partOf_11 : decode cX7_partOf 11 = .ok (.iload_n 0, 1) := by decide +kernel
theorem dX7_partOf_12 : decode cX7_partOf 12 = .ok (.iload 4, 2) := by decide +kernel
theorem dX7_partOf_14 : decode cX7_partOf 14 = .ok (.irem, 1) := by decide +kernel
theorem dX7_partOf_15 : decode cX7_partOf 15 = .ok (.ifCond .ne 13, 3) := by decide +kernel
theorem dX7_partOf_18 : decode cX7_partOf 18 = .ok (.iload_n 1, 1) := by decide +kernel
theorem dX7_partOf_19 : decode cX7_partOf 19 = .ok (.iload 4, 2) := by decide +kernel
theorem dX7_partOf_21 : decode cX7_partOf 21 = .ok (.irem, 1) := by decide +kernel
theorem dX7_partOf_22 : decode cX7_partOf 22 = .ok (.ifCond .ne 6, 3) := by decide +kernel
theorem dX7_partOf_25 : decode cX7_partOf 25 = .ok (.iload 4, 2) := by decide +kernel
theorem dX7_partOf_27 : decode cX7_partOf 27 = .ok (.istore_n 3, 1) := by decide +kernel
theorem dX7_partOf_28 : decode cX7_partOf 28 = .ok (.iinc 4 1, 3) := by decide +kernel
theorem dX7_partOf_31 : decode cX7_partOf 31 = .ok (.goto (-26), 3) := by decide +kernel
theorem dX7_partOf_34 : decode cX7_partOf 34 = .ok (.iload_n 2, 1) := by decide +kernel
theorem dX7_partOf_35 : decode cX7_partOf 35 = .ok (.ifCond .ne 7, 3) := by decide +kernel
theorem dX7_partOf_38 : decode cX7_partOf 38 = .ok (.iload_n 0, 1) := by decide +kernel
theorem dX7_partOf_39 : decode cX7_partOf 39 = .ok (.goto 4, 3) := by decide +kernel
theorem dX7_partOf_42 : decode cX7_partOf 42 = .ok (.iload_n 1, 1) := by decide +kernel
theorem dX7_partOf_43 : decode cX7_partOf 43 = .ok (.iload_n 3, 1) := by decide +kernel
theorem dX7_partOf_44 : decode cX7_partOf 44 = .ok (.idiv, 1) := by decide +kernel
theorem dX7_partOf_45 : decode cX7_partOf 45 = .ok (.i2l, 1) := by decide +kernel
theorem dX7_partOf_46 : decode cX7_partOf 46 = .ok (.lreturn, 1) := by decide +kernel
theorem sd726_0 (F : zFx p l R s m args meth c D cid kv N0 xs Ls RX7 cX7_partOf 5 n0 z0 nF zE d) (IH : zAllM l D cid kv N0 xs Ls d) (hQ : ∀ v h, Qq v h → v = r0 ∧ h = hF) (hn : nF = zN hF) (hz : zE = zZ hF) (hlocks : meth.locks = false) (hr : meth.sig.returnType = (some .long)) : zSoL p l e R s m args below meth c D cid kv N0 xs Ls 5 (MQ below (zQc D cid kv N0 xs Ls ρ0 r0 hF) args s (nF - n0) (zE - z0) (zA N0)) ρ0 n0 z0 nF zE Qq (zCall d) zt726_0 := zc_so (si_iconst F dX7_partOf_0 rfl)
  (zc_so (si_istore_n F dX7_partOf_1 rfl)
  (zc_so (si_iconst F dX7_partOf_2 rfl)
  (zc_so (si_istore F dX7_partOf_3)
  (zc_so (si_iload F dX7_partOf_5)
  (zc_so (si_iload_n F dX7_partOf_7 rfl)
  (zc_so (si_icgt F dX7_partOf_8 rfl)
  (zc_so (si_iload_n F dX7_partOf_11 rfl)
  (zc_so (si_iload F dX7_partOf_12)
  (zc_so (si_irem F dX7_partOf_14)
  (zc_so (si_ifne F dX7_partOf_15 rfl)
  (zc_so (si_iload_n F dX7_partOf_18 rfl)
  (zc_so (si_iload F dX7_partOf_19)
  (zc_so (si_irem F dX7_partOf_21)
  (zc_so (si_ifne F dX7_partOf_22 rfl)
  (zc_so (si_iload F dX7_partOf_25)
  (zc_so (si_istore_n F dX7_partOf_27 rfl)
  (zc_so (si_iinc F dX7_partOf_28 rfl)
  (zc_so (si_goto F dX7_partOf_31 rfl)
  (zc_so (si_iload_n F dX7_partOf_34 rfl)
  (zc_so (si_ifne F dX7_partOf_35 rfl)
  (zc_so (si_iload_n F dX7_partOf_38 rfl)
  (zc_so (si_goto F dX7_partOf_39 rfl)
  (zc_so (si_iload_n F dX7_partOf_42 rfl)
  (zc_so (si_iload_n F dX7_partOf_43 rfl)
  (zc_so (si_idiv F dX7_partOf_44)
  (zc_so (si_i2l F dX7_partOf_45)
  (zc_so (si_rJ F hQ hn hz hlocks hr dX7_partOf_46)
  (zc_nil))))))))))))))))))))))))))))
theorem sd726 (F : zFx p l R s m args meth c D cid kv N0 xs Ls RX7 cX7_partOf 5 n0 z0 nF zE d) (IH : zAllM l D cid kv N0 xs Ls d) (hQ : ∀ v h, Qq v h → v = r0 ∧ h = hF) (hn : nF = zN hF) (hz : zE = zZ hF) (hlocks : meth.locks = false) (hr : meth.sig.returnType = (some .long)) (pc : Nat) : zSo p l e R s m args below meth c D cid kv N0 xs Ls 5 (MQ below (zQc D cid kv N0 xs Ls ρ0 r0 hF) args s (nF - n0) (zE - z0) (zA N0)) ρ0 n0 z0 nF zE Qq (zCall d) pc (zTab 726 pc) := zc_tab [zt726_0] (zc_cons (sd726_0 F IH hQ hn hz hlocks hr) zc_end)
theorem dX7_plan_0 : decode cX7_plan 0 = .ok (.iload_n 1, 1) := by decide +kernel
theorem dX7_plan_1 : decode cX7_plan 1 = .ok (.iconst (-1), 1) := by decide +kernel
theorem dX7_plan_2 : decode cX7_plan 2 = .ok (.if_icmp .ne 14, 3) := by decide +kernel
theorem dX7_plan_5 : decode cX7_plan 5 = .ok (.aload_n 0, 1) := by decide +kernel
theorem dX7_plan_6 : decode cX7_plan 6 = .ok (.getfield 27, 3) := by decide +kernel
theorem dX7_plan_9 : decode cX7_plan 9 = .ok (.getfield 205, 3) := by decide +kernel
theorem dX7_plan_12 : decode cX7_plan 12 = .ok (.invokevirtual 179, 3) := by decide +kernel
theorem dX7_plan_15 : decode cX7_plan 15 = .ok (.ireturn, 1) := by decide +kernel
theorem dX7_plan_16 : decode cX7_plan 16 = .ok (.iload_n 1, 1) := by decide +kernel
theorem dX7_plan_17 : decode cX7_plan 17 = .ok (.iconst 3, 1) := by decide +kernel
theorem dX7_plan_18 : decode cX7_plan 18 = .ok (.invokestatic 55, 3) := by decide +kernel
theorem dX7_plan_21 : decode cX7_plan 21 = .ok (.ifCond .eq 15, 3) := by decide +kernel
theorem dX7_plan_24 : decode cX7_plan 24 = .ok (.iload_n 1, 1) := by decide +kernel
theorem dX7_plan_25 : decode cX7_plan 25 = .ok (.ifCond .eq 13, 3) := by decide +kernel
theorem dX7_plan_28 : decode cX7_plan 28 = .ok (.aload_n 0, 1) := by decide +kernel
theorem dX7_plan_29 : decode cX7_plan 29 = .ok (.iload_n 2, 1) := by decide +kernel
theorem dX7_plan_30 : decode cX7_plan 30 = .ok (.invokevirtual 63, 3) := by decide +kernel
theorem dX7_plan_33 : decode cX7_plan 33 = .ok (.ifCond .ne 5, 3) := by decide +kernel
theorem dX7_plan_36 : decode cX7_plan 36 = .ok (.iconst (-1), 1) := by decide +kernel
theorem dX7_plan_37 : decode cX7_plan 37 = .ok (.ireturn, 1) := by decide +kernel
theorem dX7_plan_38 : decode cX7_plan 38 = .ok (.aload_n 0, 1) := by decide +kernel
theorem dX7_plan_39 : decode cX7_plan 39 = .ok (.getfield 27, 3) := by decide +kernel
theorem dX7_plan_42 : decode cX7_plan 42 = .ok (.getfield 205, 3) := by decide +kernel
theorem dX7_plan_45 : decode cX7_plan 45 = .ok (.iload_n 1, 1) := by decide +kernel
theorem dX7_plan_46 : decode cX7_plan 46 = .ok (.iload_n 2, 1) := by decide +kernel
theorem dX7_plan_47 : decode cX7_plan 47 = .ok (.iconst 0, 1) := by decide +kernel
theorem dX7_plan_48 : decode cX7_plan 48 = .ok (.invokevirtual 184, 3) := by decide +kernel
theorem dX7_plan_51 : decode cX7_plan 51 = .ok (.ireturn, 1) := by decide +kernel
theorem sd727_0 (F : zFx p l R s m args meth c D cid kv N0 xs Ls RX7 cX7_plan 3 n0 z0 nF zE d) (IH : zAllM l D cid kv N0 xs Ls d) (hQ : ∀ v h, Qq v h → v = r0 ∧ h = hF) (hn : nF = zN hF) (hz : zE = zZ hF) (hlocks : meth.locks = false) (hr : meth.sig.returnType = (some .int)) : zSoL p l e R s m args below meth c D cid kv N0 xs Ls 3 (MQ below (zQc D cid kv N0 xs Ls ρ0 r0 hF) args s (nF - n0) (zE - z0) (zA N0)) ρ0 n0 z0 nF zE Qq (zCall d) zt727_0 := zc_so (si_iload_n F dX7_plan_0 rfl)
  (zc_so (si_iconst F dX7_plan_1 rfl)
  (zc_so (si_icne F dX7_plan_2 rfl)
  (zc_so (si_aload_n F dX7_plan_5 rfl)
  (zc_so (si_getR (k := 3) F rfl inT7 (by decide) (by decide) rfl rfl tb_219 dX7_plan_6)
  (zc_so (si_getR (k := 1) F rfl inT1 (by decide) (by decide) rfl rfl tb_122 dX7_plan_9)
  (zc_so (si_cV F (IH 302 mm302) mp302 (by decide) rfl rfl (by decide) tb_516 mi302 ms302 mn302 mc302 dX7_plan_12)
  (zc_so (si_rI F hQ hn hz hlocks hr (fun _ _ => rfl) dX7_plan_15)
  (zc_so (si_iload_n F dX7_plan_16 rfl)
  (zc_so (si_iconst F dX7_plan_17 rfl)
  (zc_so (si_cS  F (IH 744 mm744) mp744 (by decide) tb_251 mi744 mn744 mc744 dX7_plan_18)
  (zc_so (si_ifeq F dX7_plan_21 rfl)
  (zc_so (si_iload_n F dX7_plan_24 rfl)
  (zc_so (si_ifeq F dX7_plan_25 rfl)
  (zc_so (si_aload_n F dX7_plan_28 rfl)
  (zc_so (si_iload_n F dX7_plan_29 rfl)
  (zc_so (si_cV F (IH 743 mm743) mp743 (by decide) rfl rfl (by decide) tb_266 mi743 ms743 mn743 mc743 dX7_plan_30)
  (zc_so (si_ifne F dX7_plan_33 rfl)
  (zc_so (si_iconst F dX7_plan_36 rfl)
  (zc_so (si_rI F hQ hn hz hlocks hr (fun _ _ => rfl) dX7_plan_37)
  (zc_so (si_aload_n F dX7_plan_38 rfl)
  (zc_so (si_getR (k := 3) F rfl inT7 (by decide) (by decide) rfl rfl tb_219 dX7_plan_39)
  (zc_so (si_getR (k := 1) F rfl inT1 (by decide) (by decide) rfl rfl tb_122 dX7_plan_42)
  (zc_so (si_iload_n F dX7_plan_45 rfl)
  (zc_so (si_iload_n F dX7_plan_46 rfl)
  (zc_so (si_iconst F dX7_plan_47 rfl)
  (zc_so (si_cV F (IH 303 mm303) mp303 (by decide) rfl rfl (by decide) tb_520 mi303 ms303 mn303 mc303 dX7_plan_48)
  (zc_so (si_rI F hQ hn hz hlocks hr (fun _ _ => rfl) dX7_plan_51)
  (zc_nil))))))))))))))))))))))))))))
theorem sd727 (F : zFx p l R s m args meth c D cid kv N0 xs Ls RX7 cX7_plan 3 n0 z0 nF zE d) (IH : zAllM l D cid kv N0 xs Ls d) (hQ : ∀ v h, Qq v h → v = r0 ∧ h = hF) (hn : nF = zN hF) (hz : zE = zZ hF) (hlocks : meth.locks = false) (hr : meth.sig.returnType = (some .int)) (pc : Nat) : zSo p l e R s m args below meth c D cid kv N0 xs Ls 3 (MQ below (zQc D cid kv N0 xs Ls ρ0 r0 hF) args s (nF - n0) (zE - z0) (zA N0)) ρ0 n0 z0 nF zE Qq (zCall d) pc (zTab 727 pc) := zc_tab [zt727_0] (zc_cons (sd727_0 F IH hQ hn hz hlocks hr) zc_end)
theorem dX7_ends_0 : decode cX7_ends 0 = .ok (.iload_n 1, 1) := by decide +kernel
theorem dX7_ends_1 : decode cX7_ends 1 = .ok (.iconst 1, 1) := by decide +kernel
theorem dX7_ends_2 : decode cX7_ends 2 = .ok (.invokestatic 55, 3) := by decide +kernel
theorem dX7_ends_5 : decode cX7_ends 5 = .ok (.ifCond .ne 5, 3) := by decide +kernel
theorem dX7_ends_8 : decode cX7_ends 8 = .ok (.iconst (-1), 1) := by decide +kernel
theorem dX7_ends_9 : decode cX7_ends 9 = .ok (.ireturn, 1) := by decide +kernel
theorem dX7_ends_10 : decode cX7_ends 10 = .ok (.aload_n 0, 1) := by decide +kernel
theorem dX7_ends_11 : decode cX7_ends 11 = .ok (.getfield 18, 3) := by decide +kernel
theorem dX7_ends_14 : decode cX7_ends 14 = .ok (.aload_n 0, 1) := by decide +kernel
theorem dX7_ends_15 : decode cX7_ends 15 = .ok (.getfield 12, 3) := by decide +kernel
theorem dX7_ends_18 : decode cX7_ends 18 = .ok (.invokevirtual 144, 3) := by decide +kernel
theorem dX7_ends_21 : decode cX7_ends 21 = .ok (.iconst 0, 1) := by decide +kernel
theorem dX7_ends_22 : decode cX7_ends 22 = .ok (.istore_n 2, 1) := by decide +kernel
theorem dX7_ends_23 : decode cX7_ends 23 = .ok (.iload_n 2, 1) := by decide +kernel
theorem dX7_ends_24 : decode cX7_ends 24 = .ok (.aload_n 0, 1) := by decide +kernel
theorem dX7_ends_25 : decode cX7_ends 25 = .ok (.getfield 27, 3) := by decide +kernel
theorem dX7_ends_28 : decode cX7_ends 28 = .ok (.getfield 205, 3) := by decide +kernel
theorem dX7_ends_31 : decode cX7_ends 31 = .ok (.getfield 208, 3) := by decide +kernel
theorem dX7_ends_34 : decode cX7_ends 34 = .ok (.if_icmp .ge 37, 3) := by decide +kernel
theorem dX7_ends_37 : decode cX7_ends 37 = .ok (.aload_n 0, 1) := by decide +kernel
theorem dX7_ends_38 : decode cX7_ends 38 = .ok (.aload_n 0, 1) := by decide +kernel
theorem dX7_ends_39 : decode cX7_ends 39 = .ok (.getfield 27, 3) := by decide +kernel
theorem dX7_ends_42 : decode cX7_ends 42 = .ok (.getfield 205, 3) := by decide +kernel
theorem dX7_ends_45 : decode cX7_ends 45 = .ok (.getfield 209, 3) := by decide +kernel
theorem dX7_ends_48 : decode cX7_ends 48 = .ok (.iload_n 2, 1) := by decide +kernel
theorem dX7_ends_49 : decode cX7_ends 49 = .ok (.iaload, 1) := by decide +kernel
theorem dX7_ends_50 : decode cX7_ends 50 = .ok (.aload_n 0, 1) := by decide +kernel
theorem dX7_ends_51 : decode cX7_ends 51 = .ok (.getfield 27, 3) := by decide +kernel
theorem dX7_ends_54 : decode cX7_ends 54 = .ok (.getfield 205, 3) := by decide +kernel
theorem dX7_ends_57 : decode cX7_ends 57 = .ok (.getfield 212, 3) := by decide +kernel
theorem dX7_ends_60 : decode cX7_ends 60 = .ok (.iload_n 2, 1) := by decide +kernel
theorem dX7_ends_61 : decode cX7_ends 61 = .ok (.iaload, 1) := by decide +kernel
theorem dX7_ends_62 : decode cX7_ends 62 = .ok (.invokevirtual 215, 3) := by decide +kernel
theorem dX7_ends_65 : decode cX7_ends 65 = .ok (.iinc 2 1, 3) := by decide +kernel
theorem dX7_ends_68 : decode cX7_ends 68 = .ok (.goto (-45), 3) := by decide +kernel
theorem dX7_ends_71 : decode cX7_ends 71 = .ok (.iload_n 1, 1) := by decide +kernel
theorem dX7_ends_72 : decode cX7_ends 72 = .ok (.ifCond .ne 13, 3) := by decide +kernel
theorem dX7_ends_75 : decode cX7_ends 75 = .ok (.aload_n 0, 1) := by decide +kernel
theorem dX7_ends_76 : decode cX7_ends 76 = .ok (.getfield 18, 3) := by decide +kernel
theorem dX7_ends_79 : decode cX7_ends 79 = .ok (.getfield 102, 3) := by decide +kernel
theorem dX7_ends_82 : decode cX7_ends 82 = .ok (.goto 12, 3) := by decide +kernel
theorem dX7_ends_85 : decode cX7_ends 85 = .ok (.aload_n 0, 1) := by decide +kernel
theorem dX7_ends_86 : decode cX7_ends 86 = .ok (.getfield 18, 3) := by decide +kernel
theorem dX7_ends_89 : decode cX7_ends 89 = .ok (.bipush 10, 2) := by decide +kernel
theorem dX7_ends_91 : decode cX7_ends 91 = .ok (.invokevirtual 134, 3) := by decide +kernel
theorem dX7_ends_94 : decode cX7_ends 94 = .ok (.ireturn, 1) := by decide +kernel
theorem sd728_0 (F : zFx p l R s m args meth c D cid kv N0 xs Ls RX7 cX7_ends 3 n0 z0 nF zE d) (IH : zAllM l D cid kv N0 xs Ls d) (hQ : ∀ v h, Qq v h → v = r0 ∧ h = hF) (hn : nF = zN hF) (hz : zE = zZ hF) (hlocks : meth.locks = false) (hr : meth.sig.returnType = (some .int)) : zSoL p l e R s m args below meth c D cid kv N0 xs Ls 3 (MQ below (zQc D cid kv N0 xs Ls ρ0 r0 hF) args s (nF - n0) (zE - z0) (zA N0)) ρ0 n0 z0 nF zE Qq (zCall d) zt728_0 := zc_so (si_iload_n F dX7_ends_0 rfl)
  (zc_so (si_iconst F dX7_ends_1 rfl)
  (zc_so (si_cS  F (IH 744 mm744) mp744 (by decide) tb_251 mi744 mn744 mc744 dX7_ends_2)
  (zc_so (si_ifne F dX7_ends_5 rfl)
  (zc_so (si_iconst F dX7_ends_8 rfl)
  (zc_so (si_rI F hQ hn hz hlocks hr (fun _ _ => rfl) dX7_ends_9)
  (zc_so (si_aload_n F dX7_ends_10 rfl)
  (zc_so (si_getR (k := 1) F rfl inT7 (by decide) (by decide) rfl rfl tb_217 dX7_ends_11)
  (zc_so (si_aload_n F dX7_ends_14 rfl)
  (zc_so (si_getR (k := 0) F rfl inT7 (by decide) (by decide) rfl rfl tb_216 dX7_ends_15)
  (zc_so (si_cV F (IH 202 mm202) mp202 (by decide) rfl rfl (by decide) tb_304 mi202 ms202 mn202 mc202 dX7_ends_18)
  (zc_so (si_iconst F dX7_ends_21 rfl)
  (zc_so (si_istore_n F dX7_ends_22 rfl)
  (zc_so (si_iload_n F dX7_ends_23 rfl)
  (zc_so (si_aload_n F dX7_ends_24 rfl)
  (zc_so (si_getR (k := 3) F rfl inT7 (by decide) (by decide) rfl rfl tb_219 dX7_ends_25)
  (zc_so (si_getR (k := 1) F rfl inT1 (by decide) (by decide) rfl rfl tb_122 dX7_ends_28)
  (zc_so (si_getI (k := 3) F rfl inT3 (by decide) (by decide) rfl rfl tb_109 dX7_ends_31)
  (zc_so (si_icge F dX7_ends_34 rfl)
  (zc_so (si_aload_n F dX7_ends_37 rfl)
  (zc_so (si_aload_n F dX7_ends_38 rfl)
  (zc_so (si_getR (k := 3) F rfl inT7 (by decide) (by decide) rfl rfl tb_219 dX7_ends_39)
  (zc_so (si_getR (k := 1) F rfl inT1 (by decide) (by decide) rfl rfl tb_122 dX7_ends_42)
  (zc_so (si_getR (k := 0) F rfl inT3 (by decide) (by decide) rfl rfl tb_101 dX7_ends_45)
  (zc_so (si_iload_n F dX7_ends_48 rfl)
  (zc_so (si_iaload F dX7_ends_49)
  (zc_so (si_aload_n F dX7_ends_50 rfl)
  (zc_so (si_getR (k := 3) F rfl inT7 (by decide) (by decide) rfl rfl tb_219 dX7_ends_51)
  (zc_so (si_getR (k := 1) F rfl inT1 (by decide) (by decide) rfl rfl tb_122 dX7_ends_54)
  (zc_so (si_getR (k := 1) F rfl inT3 (by decide) (by decide) rfl rfl tb_104 dX7_ends_57)
  (zc_so (si_iload_n F dX7_ends_60 rfl)
  (zc_so (si_iaload F dX7_ends_61)
  (zc_so (si_cV F (IH 729 mm729) mp729 (by decide) rfl rfl (by decide) tb_570 mi729 ms729 mn729 mc729 dX7_ends_62)
  (zc_nil)))))))))))))))))))))))))))))))))
theorem sd728_1 (F : zFx p l R s m args meth c D cid kv N0 xs Ls RX7 cX7_ends 3 n0 z0 nF zE d) (IH : zAllM l D cid kv N0 xs Ls d) (hQ : ∀ v h, Qq v h → v = r0 ∧ h = hF) (hn : nF = zN hF) (hz : zE = zZ hF) (hlocks : meth.locks = false) (hr : meth.sig.returnType = (some .int)) : zSoL p l e R s m args below meth c D cid kv N0 xs Ls 3 (MQ below (zQc D cid kv N0 xs Ls ρ0 r0 hF) args s (nF - n0) (zE - z0) (zA N0)) ρ0 n0 z0 nF zE Qq (zCall d) zt728_1 := zc_so (si_iinc F dX7_ends_65 rfl)
  (zc_so (si_goto F dX7_ends_68 rfl)
  (zc_so (si_iload_n F dX7_ends_71 rfl)
  (zc_so (si_ifne F dX7_ends_72 rfl)
  (zc_so (si_aload_n F dX7_ends_75 rfl)
  (zc_so (si_getR (k := 1) F rfl inT7 (by decide) (by decide) rfl rfl tb_217 dX7_ends_76)
  (zc_so (si_getI (k := 8) F rfl inT2 (by decide) (by decide) rfl rfl tb_50 dX7_ends_79)
  (zc_so (si_goto F dX7_ends_82 rfl)
  (zc_so (si_aload_n F dX7_ends_85 rfl)
  (zc_so (si_getR (k := 1) F rfl inT7 (by decide) (by decide) rfl rfl tb_217 dX7_ends_86)
  (zc_so (si_bipush F dX7_ends_89 rfl)
  (zc_so (si_cV F (IH 208 mm208) mp208 (by decide) rfl rfl (by decide) tb_469 mi208 ms208 mn208 mc208 dX7_ends_91)
  (zc_so (si_rI F hQ hn hz hlocks hr (fun _ _ => rfl) dX7_ends_94)
  (zc_nil)))))))))))))
theorem sd728 (F : zFx p l R s m args meth c D cid kv N0 xs Ls RX7 cX7_ends 3 n0 z0 nF zE d) (IH : zAllM l D cid kv N0 xs Ls d) (hQ : ∀ v h, Qq v h → v = r0 ∧ h = hF) (hn : nF = zN hF) (hz : zE = zZ hF) (hlocks : meth.locks = false) (hr : meth.sig.returnType = (some .int)) (pc : Nat) : zSo p l e R s m args below meth c D cid kv N0 xs Ls 3 (MQ below (zQc D cid kv N0 xs Ls ρ0 r0 hF) args s (nF - n0) (zE - z0) (zA N0)) ρ0 n0 z0 nF zE Qq (zCall d) pc (zTab 728 pc) := zc_tab [zt728_0, zt728_1] (zc_cons (sd728_0 F IH hQ hn hz hlocks hr) (zc_cons (sd728_1 F IH hQ hn hz hlocks hr) zc_end))
theorem dX7_followPlan_0 : decode cX7_followPlan 0 = .ok (.iload_n 1, 1) := by decide +kernel
theorem dX7_followPlan_1 : decode cX7_followPlan 1 = .ok (.ifCond .ne 14, 3) := by decide +kernel
theorem dX7_followPlan_4 : decode cX7_followPlan 4 = .ok (.aload_n 0, 1) := by decide +kernel
theorem dX7_followPlan_5 : decode cX7_followPlan 5 = .ok (.getfield 18, 3) := by decide +kernel
theorem dX7_followPlan_8 : decode cX7_followPlan 8 = .ok (.iconst 1, 1) := by decide +kernel
theorem dX7_followPlan_9 : decode cX7_followPlan 9 = .ok (.invokevirtual 140, 3) := by decide +kernel
theorem dX7_followPlan_12 : decode cX7_followPlan 12 = .ok (.goto 68, 3) := by decide +kernel
theorem dX7_followPlan_15 : decode cX7_followPlan 15 = .ok (.aload_n 0, 1) := by decide +kernel
theorem dX7_followPlan_16 : decode cX7_followPlan 16 = .ok (.iload_n 2, 1) := by decide +kernel
theorem dX7_followPlan_17 : decode cX7_followPlan 17 = .ok (.invokevirtual 63, 3) := by decide +kernel
theorem dX7_followPlan_20 : decode cX7_followPlan 20 = .ok (.ifCond .ne 4, 3) := by decide +kernel
theorem dX7_followPlan_23 : decode cX7_followPlan 23 = .ok (.return_, 1) := by decide +kernel
theorem dX7_followPlan_24 : decode cX7_followPlan 24 = .ok (.iload_n 1, 1) := by decide +kernel
theorem dX7_followPlan_25 : decode cX7_followPlan 25 = .ok (.iconst 1, 1) := by decide +kernel
theorem dX7_followPlan_26 : decode cX7_followPlan 26 = .ok (.if_icmp .ne 15, 3) := by decide +kernel
theorem dX7_followPlan_29 : decode cX7_followPlan 29 = .ok (.aload_n 0, 1) := by decide +kernel
theorem dX7_followPlan_30 : decode cX7_followPlan 30 = .ok (.getfield 18, 3) := by decide +kernel
theorem dX7_followPlan_33 : decode cX7_followPlan 33 = .ok (.iload_n 2, 1) := by decide +kernel
theorem dX7_followPlan_34 : decode cX7_followPlan 34 = .ok (.iconst 0, 1) := by decide +kernel
theorem dX7_followPlan_35 : decode cX7_followPlan 35 = .ok (.invokevirtual 94, 3) := by decide +kernel
theorem dX7_followPlan_38 : decode cX7_followPlan 38 = .ok (.goto 42, 3) := by decide +kernel
theorem dX7_followPlan_41 : decode cX7_followPlan 41 = .ok (.iload_n 1, 1) := by decide +kernel
theorem dX7_followPlan_42 : decode cX7_followPlan 42 = .ok (.iconst 2, 1) := by decide +kernel
theorem dX7_followPlan_43 : decode cX7_followPlan 43 = .ok (.if_icmp .ne 16, 3) := by decide +kernel
theorem dX7_followPlan_46 : decode cX7_followPlan 46 = .ok (.aload_n 0, 1) := by decide +kernel
theorem dX7_followPlan_47 : decode cX7_followPlan 47 = .ok (.getfield 18, 3) := by decide +kernel
theorem dX7_followPlan_50 : decode cX7_followPlan 50 = .ok (.iload_n 2, 1) := by decide +kernel
theorem dX7_followPlan_51 : decode cX7_followPlan 51 = .ok (.bipush 10, 2) := by decide +kernel
theorem dX7_followPlan_53 : decode cX7_followPlan 53 = .ok (.invokevirtual 218, 3) := by decide +kernel
theorem dX7_followPlan_56 : decode cX7_followPlan 56 = .ok (.goto 24, 3) := by decide +kernel
theorem dX7_followPlan_59 : decode cX7_followPlan 59 = .ok (.aload_n 0, 1) := by decide +kernel
theorem dX7_followPlan_60 : decode cX7_followPlan 60 = .ok (.getfield 18, 3) := by decide +kernel
theorem dX7_followPlan_63 : decode cX7_followPlan 63 = .ok (.iload_n 2, 1) := by decide +kernel
theorem dX7_followPlan_64 : decode cX7_followPlan 64 = .ok (.invokevirtual 98, 3) := by decide +kernel
theorem dX7_followPlan_67 : decode cX7_followPlan 67 = .ok (.ifCond .eq 13, 3) := by decide +kernel
theorem dX7_followPlan_70 : decode cX7_followPlan 70 = .ok (.aload_n 0, 1) := by decide +kernel
theorem dX7_followPlan_71 : decode cX7_followPlan 71 = .ok (.getfield 18, 3) := by decide +kernel
theorem dX7_followPlan_74 : decode cX7_followPlan 74 = .ok (.getfield 80, 3) := by decide +kernel
theorem dX7_followPlan_77 : decode cX7_followPlan 77 = .ok (.iload_n 2, 1) := by decide +kernel
theorem dX7_followPlan_78 : decode cX7_followPlan 78 = .ok (.iconst 1, 1) := by decide +kernel
theorem dX7_followPlan_79 : decode cX7_followPlan 79 = .ok (.bastore, 1) := by decide +kernel
theorem dX7_followPlan_80 : decode cX7_followPlan 80 = .ok (.return_, 1) := by decide +kernel
theorem sd729_0 (F : zFx p l R s m args meth c D cid kv N0 xs Ls RX7 cX7_followPlan 3 n0 z0 nF zE d) (IH : zAllM l D cid kv N0 xs Ls d) (hQ : ∀ v h, Qq v h → v = r0 ∧ h = hF) (hn : nF = zN hF) (hz : zE = zZ hF) (hlocks : meth.locks = false) (hr : meth.sig.returnType = none) : zSoL p l e R s m args below meth c D cid kv N0 xs Ls 3 (MQ below (zQc D cid kv N0 xs Ls ρ0 r0 hF) args s (nF - n0) (zE - z0) (zA N0)) ρ0 n0 z0 nF zE Qq (zCall d) zt729_0 := zc_so (si_iload_n F dX7_followPlan_0 rfl)
  (zc_so (si_ifne F dX7_followPlan_1 rfl)
  (zc_so (si_aload_n F dX7_followPlan_4 rfl)
  (zc_so (si_getR (k := 1) F rfl inT7 (by decide) (by decide) rfl rfl tb_217 dX7_followPlan_5)
  (zc_so (si_iconst F dX7_followPlan_8 rfl)
  (zc_so (si_cV F (IH 210 mm210) mp210 (by decide) rfl rfl (by decide) tb_308 mi210 ms210 mn210 mc210 dX7_followPlan_9)
  (zc_so (si_goto F dX7_followPlan_12 rfl)
  (zc_so (si_aload_n F dX7_followPlan_15 rfl)
  (zc_so (si_iload_n F dX7_followPlan_16 rfl)
  (zc_so (si_cV F (IH 743 mm743) mp743 (by decide) rfl rfl (by decide) tb_266 mi743 ms743 mn743 mc743 dX7_followPlan_17)
  (zc_so (si_ifne F dX7_followPlan_20 rfl)
  (zc_so (si_rV F hQ hn hz hlocks hr dX7_followPlan_23)
  (zc_so (si_iload_n F dX7_followPlan_24 rfl)
  (zc_so (si_iconst F dX7_followPlan_25 rfl)
  (zc_so (si_icne F dX7_followPlan_26 rfl)
  (zc_so (si_aload_n F dX7_followPlan_29 rfl)
  (zc_so (si_getR (k := 1) F rfl inT7 (by decide) (by decide) rfl rfl tb_217 dX7_followPlan_30)
  (zc_so (si_iload_n F dX7_followPlan_33 rfl)
  (zc_so (si_iconst F dX7_followPlan_34 rfl)
  (zc_so (si_cV F (IH 204 mm204) mp204 (by decide) rfl rfl (by decide) tb_325 mi204 ms204 mn204 mc204 dX7_followPlan_35)
  (zc_so (si_goto F dX7_followPlan_38 rfl)
  (zc_so (si_iload_n F dX7_followPlan_41 rfl)
  (zc_so (si_iconst F dX7_followPlan_42 rfl)
  (zc_so (si_icne F dX7_followPlan_43 rfl)
  (zc_so (si_aload_n F dX7_followPlan_46 rfl)
  (zc_so (si_getR (k := 1) F rfl inT7 (by decide) (by decide) rfl rfl tb_217 dX7_followPlan_47)
  (zc_so (si_iload_n F dX7_followPlan_50 rfl)
  (zc_so (si_bipush F dX7_followPlan_51 rfl)
  (zc_so (si_cV F (IH 205 mm205) mp205 (by decide) rfl rfl (by decide) tb_574 mi205 ms205 mn205 mc205 dX7_followPlan_53)
  (zc_so (si_goto F dX7_followPlan_56 rfl)
  (zc_so (si_aload_n F dX7_followPlan_59 rfl)
  (zc_so (si_getR (k := 1) F rfl inT7 (by decide) (by decide) rfl rfl tb_217 dX7_followPlan_60)
  (zc_so (si_iload_n F dX7_followPlan_63 rfl)
  (zc_nil)))))))))))))))))))))))))))))))))
theorem sd729_1 (F : zFx p l R s m args meth c D cid kv N0 xs Ls RX7 cX7_followPlan 3 n0 z0 nF zE d) (IH : zAllM l D cid kv N0 xs Ls d) (hQ : ∀ v h, Qq v h → v = r0 ∧ h = hF) (hn : nF = zN hF) (hz : zE = zZ hF) (hlocks : meth.locks = false) (hr : meth.sig.returnType = none) : zSoL p l e R s m args below meth c D cid kv N0 xs Ls 3 (MQ below (zQc D cid kv N0 xs Ls ρ0 r0 hF) args s (nF - n0) (zE - z0) (zA N0)) ρ0 n0 z0 nF zE Qq (zCall d) zt729_1 := zc_so (si_cV F (IH 207 mm207) mp207 (by decide) rfl rfl (by decide) tb_330 mi207 ms207 mn207 mc207 dX7_followPlan_64)
  (zc_so (si_ifeq F dX7_followPlan_67 rfl)
  (zc_so (si_aload_n F dX7_followPlan_70 rfl)
  (zc_so (si_getR (k := 1) F rfl inT7 (by decide) (by decide) rfl rfl tb_217 dX7_followPlan_71)
  (zc_so (si_getR (k := 5) F rfl inT2 (by decide) (by decide) rfl rfl tb_44 dX7_followPlan_74)
  (zc_so (si_iload_n F dX7_followPlan_77 rfl)
  (zc_so (si_iconst F dX7_followPlan_78 rfl)
  (zc_so (si_bastoreZ F dX7_followPlan_79)
  (zc_so (si_rV F hQ hn hz hlocks hr dX7_followPlan_80)
  (zc_nil)))))))))
theorem sd729 (F : zFx p l R s m args meth c D cid kv N0 xs Ls RX7 cX7_followPlan 3 n0 z0 nF zE d) (IH : zAllM l D cid kv N0 xs Ls d) (hQ : ∀ v h, Qq v h → v = r0 ∧ h = hF) (hn : nF = zN hF) (hz : zE = zZ hF) (hlocks : meth.locks = false) (hr : meth.sig.returnType = none) (pc : Nat) : zSo p l e R s m args below meth c D cid kv N0 xs Ls 3 (MQ below (zQc D cid kv N0 xs Ls ρ0 r0 hF) args s (nF - n0) (zE - z0) (zA N0)) ρ0 n0 z0 nF zE Qq (zCall d) pc (zTab 729 pc) := zc_tab [zt729_0, zt729_1] (zc_cons (sd729_0 F IH hQ hn hz hlocks hr) (zc_cons (sd729_1 F IH hQ hn hz hlocks hr) zc_end))
theorem dX7_book_0 : decode cX7_book 0 = .ok (.iload_n 1, 1) := by decide +kernel
theorem dX7_book_1 : decode cX7_book 1 = .ok (.iconst (-1), 1) := by decide +kernel
theorem dX7_book_2 : decode cX7_book 2 = .ok (.if_icmp .ne 14, 3) := by decide +kernel
theorem dX7_book_5 : decode cX7_book 5 = .ok (.aload_n 0, 1) := by decide +kernel
theorem dX7_book_6 : decode cX7_book 6 = .ok (.getfield 27, 3) := by decide +kernel
theorem dX7_book_9 : decode cX7_book 9 = .ok (.getfield 221, 3) := by decide +kernel
theorem dX7_book_12 : decode cX7_book 12 = .ok (.invokevirtual 179, 3) := by decide +kernel
theorem dX7_book_15 : decode cX7_book 15 = .ok (.ireturn, 1) := by decide +kernel
theorem dX7_book_16 : decode cX7_book 16 = .ok (.aload_n 0, 1) := by decide +kernel
theorem dX7_book_17 : decode cX7_book 17 = .ok (.iload_n 1, 1) := by decide +kernel
theorem dX7_book_18 : decode cX7_book 18 = .ok (.invokevirtual 63, 3) := by decide +kernel
theorem dX7_book_21 : decode cX7_book 21 = .ok (.ifCond .eq 12, 3) := by decide +kernel
theorem dX7_book_24 : decode cX7_book 24 = .ok (.iload_n 2, 1) := by decide +kernel
theorem dX7_book_25 : decode cX7_book 25 = .ok (.bipush 10, 2) := by decide +kernel
theorem dX7_book_27 : decode cX7_book 27 = .ok (.invokestatic 55, 3) := by decide +kernel
theorem dX7_book_30 : decode cX7_book 30 = .ok (.ifCond .ne 5, 3) := by decide +kernel
theorem dX7_book_33 : decode cX7_book 33 = .ok (.iconst (-1), 1) := by decide +kernel
theorem dX7_book_34 : decode cX7_book 34 = .ok (.ireturn, 1) := by decide +kernel
theorem dX7_book_35 : decode cX7_book 35 = .ok (.aload_n 0, 1) := by decide +kernel
theorem dX7_book_36 : decode cX7_book 36 = .ok (.getfield 27, 3) := by decide +kernel
theorem dX7_book_39 : decode cX7_book 39 = .ok (.getfield 221, 3) := by decide +kernel
theorem dX7_book_42 : decode cX7_book 42 = .ok (.iload_n 1, 1) := by decide +kernel
theorem dX7_book_43 : decode cX7_book 43 = .ok (.iload_n 2, 1) := by decide +kernel
theorem dX7_book_44 : decode cX7_book 44 = .ok (.iconst 0, 1) := by decide +kernel
theorem dX7_book_45 : decode cX7_book 45 = .ok (.invokevirtual 184, 3) := by decide +kernel
theorem dX7_book_48 : decode cX7_book 48 = .ok (.ireturn, 1) := by decide +kernel
theorem sd730_0 (F : zFx p l R s m args meth c D cid kv N0 xs Ls RX7 cX7_book 3 n0 z0 nF zE d) (IH : zAllM l D cid kv N0 xs Ls d) (hQ : ∀ v h, Qq v h → v = r0 ∧ h = hF) (hn : nF = zN hF) (hz : zE = zZ hF) (hlocks : meth.locks = false) (hr : meth.sig.returnType = (some .int)) : zSoL p l e R s m args below meth c D cid kv N0 xs Ls 3 (MQ below (zQc D cid kv N0 xs Ls ρ0 r0 hF) args s (nF - n0) (zE - z0) (zA N0)) ρ0 n0 z0 nF zE Qq (zCall d) zt730_0 := zc_so (si_iload_n F dX7_book_0 rfl)
  (zc_so (si_iconst F dX7_book_1 rfl)
  (zc_so (si_icne F dX7_book_2 rfl)
  (zc_so (si_aload_n F dX7_book_5 rfl)
  (zc_so (si_getR (k := 3) F rfl inT7 (by decide) (by decide) rfl rfl tb_219 dX7_book_6)
  (zc_so (si_getR (k := 2) F rfl inT1 (by decide) (by decide) rfl rfl tb_124 dX7_book_9)
  (zc_so (si_cV F (IH 302 mm302) mp302 (by decide) rfl rfl (by decide) tb_516 mi302 ms302 mn302 mc302 dX7_book_12)
  (zc_so (si_rI F hQ hn hz hlocks hr (fun _ _ => rfl) dX7_book_15)
  (zc_so (si_aload_n F dX7_book_16 rfl)
  (zc_so (si_iload_n F dX7_book_17 rfl)
  (zc_so (si_cV F (IH 743 mm743) mp743 (by decide) rfl rfl (by decide) tb_266 mi743 ms743 mn743 mc743 dX7_book_18)
  (zc_so (si_ifeq F dX7_book_21 rfl)
  (zc_so (si_iload_n F dX7_book_24 rfl)
  (zc_so (si_bipush F dX7_book_25 rfl)
  (zc_so (si_cS  F (IH 744 mm744) mp744 (by decide) tb_251 mi744 mn744 mc744 dX7_book_27)
  (zc_so (si_ifne F dX7_book_30 rfl)
  (zc_so (si_iconst F dX7_book_33 rfl)
  (zc_so (si_rI F hQ hn hz hlocks hr (fun _ _ => rfl) dX7_book_34)
  (zc_so (si_aload_n F dX7_book_35 rfl)
  (zc_so (si_getR (k := 3) F rfl inT7 (by decide) (by decide) rfl rfl tb_219 dX7_book_36)
  (zc_so (si_getR (k := 2) F rfl inT1 (by decide) (by decide) rfl rfl tb_124 dX7_book_39)
  (zc_so (si_iload_n F dX7_book_42 rfl)
  (zc_so (si_iload_n F dX7_book_43 rfl)
  (zc_so (si_iconst F dX7_book_44 rfl)
  (zc_so (si_cV F (IH 303 mm303) mp303 (by decide) rfl rfl (by decide) tb_520 mi303 ms303 mn303 mc303 dX7_book_45)
  (zc_so (si_rI F hQ hn hz hlocks hr (fun _ _ => rfl) dX7_book_48)
  (zc_nil))))))))))))))))))))))))))
theorem sd730 (F : zFx p l R s m args meth c D cid kv N0 xs Ls RX7 cX7_book 3 n0 z0 nF zE d) (IH : zAllM l D cid kv N0 xs Ls d) (hQ : ∀ v h, Qq v h → v = r0 ∧ h = hF) (hn : nF = zN hF) (hz : zE = zZ hF) (hlocks : meth.locks = false) (hr : meth.sig.returnType = (some .int)) (pc : Nat) : zSo p l e R s m args below meth c D cid kv N0 xs Ls 3 (MQ below (zQc D cid kv N0 xs Ls ρ0 r0 hF) args s (nF - n0) (zE - z0) (zA N0)) ρ0 n0 z0 nF zE Qq (zCall d) pc (zTab 730 pc) := zc_tab [zt730_0] (zc_cons (sd730_0 F IH hQ hn hz hlocks hr) zc_end)
theorem dX7_looked_0 : decode cX7_looked 0 = .ok (.iconst 0, 1) := by decide +kernel
theorem dX7_looked_1 : decode cX7_looked 1 = .ok (.istore_n 1, 1) := by decide +kernel
theorem dX7_looked_2 : decode cX7_looked 2 = .ok (.iload_n 1, 1) := by decide +kernel
theorem dX7_looked_3 : decode cX7_looked 3 = .ok (.aload_n 0, 1) := by decide +kernel
theorem dX7_looked_4 : decode cX7_looked 4 = .ok (.getfield 27, 3) := by decide +kernel
theorem dX7_looked_7 : decode cX7_looked 7 = .ok (.getfield 221, 3) := by decide +kernel
theorem dX7_looked_10 : decode cX7_looked 10 = .ok (.getfield 208, 3) := by decide +kernel
theorem dX7_looked_13 : decode cX7_looked 13 = .ok (.if_icmp .ge 45, 3) := by decide +kernel
theorem dX7_looked_16 : decode cX7_looked 16 = .ok (.aload_n 0, 1) := by decide +kernel
theorem dX7_looked_17 : decode cX7_looked 17 = .ok (.getfield 12, 3) := by decide +kernel
theorem dX7_looked_20 : decode cX7_looked 20 = .ok (.aload_n 0, 1) := by decide +kernel
theorem dX7_looked_21 : decode cX7_looked 21 = .ok (.getfield 27, 3) := by decide +kernel
theorem dX7_looked_24 : decode cX7_looked 24 = .ok (.getfield 221, 3) := by decide +kernel
theorem dX7_looked_27 : decode cX7_looked 27 = .ok (.getfield 209, 3) := by decide +kernel
theorem dX7_looked_30 : decode cX7_looked 30 = .ok (.iload_n 1, 1) := by decide +kernel
theorem dX7_looked_31 : decode cX7_looked 31 = .ok (.iaload, 1) := by decide +kernel
theorem dX7_looked_32 : decode cX7_looked 32 = .ok (.aload_n 0, 1) := by decide +kernel
theorem dX7_looked_33 : decode cX7_looked 33 = .ok (.getfield 27, 3) := by decide +kernel
theorem dX7_looked_36 : decode cX7_looked 36 = .ok (.getfield 221, 3) := by decide +kernel
theorem dX7_looked_39 : decode cX7_looked 39 = .ok (.getfield 212, 3) := by decide +kernel
theorem dX7_looked_42 : decode cX7_looked 42 = .ok (.iload_n 1, 1) := by decide +kernel
theorem dX7_looked_43 : decode cX7_looked 43 = .ok (.iaload, 1) := by decide +kernel
theorem dX7_looked_44 : decode cX7_looked 44 = .ok (.invokevirtual 224, 3) := by decide +kernel
theorem dX7_looked_47 : decode cX7_looked 47 = .ok (.ifCond .ne 5, 3) := by decide +kernel
theorem dX7_looked_50 : decode cX7_looked 50 = .ok (.iload_n 1, 1) := by decide +kernel
theorem dX7_looked_51 : decode cX7_looked 51 = .ok (.ireturn, 1) := by decide +kernel
theorem dX7_looked_52 : decode cX7_looked 52 = .ok (.iinc 1 1, 3) := by decide +kernel
theorem dX7_looked_55 : decode cX7_looked 55 = .ok (.goto (-53), 3) := by decide +kernel
theorem dX7_looked_58 : decode cX7_looked 58 = .ok (.bipush (-5), 2) := by decide +kernel
theorem dX7_looked_60 : decode cX7_looked 60 = .ok (.ireturn, 1) := by decide +kernel
theorem sd731_0 (F : zFx p l R s m args meth c D cid kv N0 xs Ls RX7 cX7_looked 2 n0 z0 nF zE d) (IH : zAllM l D cid kv N0 xs Ls d) (hQ : ∀ v h, Qq v h → v = r0 ∧ h = hF) (hn : nF = zN hF) (hz : zE = zZ hF) (hlocks : meth.locks = false) (hr : meth.sig.returnType = (some .int)) : zSoL p l e R s m args below meth c D cid kv N0 xs Ls 2 (MQ below (zQc D cid kv N0 xs Ls ρ0 r0 hF) args s (nF - n0) (zE - z0) (zA N0)) ρ0 n0 z0 nF zE Qq (zCall d) zt731_0 := zc_so (si_iconst F dX7_looked_0 rfl)
  (zc_so (si_istore_n F dX7_looked_1 rfl)
  (zc_so (si_iload_n F dX7_looked_2 rfl)
  (zc_so (si_aload_n F dX7_looked_3 rfl)
  (zc_so (si_getR (k := 3) F rfl inT7 (by decide) (by decide) rfl rfl tb_219 dX7_looked_4)
  (zc_so (si_getR (k := 2) F rfl inT1 (by decide) (by decide) rfl rfl tb_124 dX7_looked_7)
  (zc_so (si_getI (k := 3) F rfl inT3 (by decide) (by decide) rfl rfl tb_109 dX7_looked_10)
  (zc_so (si_icge F dX7_looked_13 rfl)
  (zc_so (si_aload_n F dX7_looked_16 rfl)
  (zc_so (si_getR (k := 0) F rfl inT7 (by decide) (by decide) rfl rfl tb_216 dX7_looked_17)
  (zc_so (si_aload_n F dX7_looked_20 rfl)
  (zc_so (si_getR (k := 3) F rfl inT7 (by decide) (by decide) rfl rfl tb_219 dX7_looked_21)
  (zc_so (si_getR (k := 2) F rfl inT1 (by decide) (by decide) rfl rfl tb_124 dX7_looked_24)
  (zc_so (si_getR (k := 0) F rfl inT3 (by decide) (by decide) rfl rfl tb_101 dX7_looked_27)
  (zc_so (si_iload_n F dX7_looked_30 rfl)
  (zc_so (si_iaload F dX7_looked_31)
  (zc_so (si_aload_n F dX7_looked_32 rfl)
  (zc_so (si_getR (k := 3) F rfl inT7 (by decide) (by decide) rfl rfl tb_219 dX7_looked_33)
  (zc_so (si_getR (k := 2) F rfl inT1 (by decide) (by decide) rfl rfl tb_124 dX7_looked_36)
  (zc_so (si_getR (k := 1) F rfl inT3 (by decide) (by decide) rfl rfl tb_104 dX7_looked_39)
  (zc_so (si_iload_n F dX7_looked_42 rfl)
  (zc_so (si_iaload F dX7_looked_43)
  (zc_so (si_cV F (IH 206 mm206) mp206 (by decide) rfl rfl (by decide) tb_583 mi206 ms206 mn206 mc206 dX7_looked_44)
  (zc_so (si_ifne F dX7_looked_47 rfl)
  (zc_so (si_iload_n F dX7_looked_50 rfl)
  (zc_so (si_rI F hQ hn hz hlocks hr (fun _ _ => rfl) dX7_looked_51)
  (zc_so (si_iinc F dX7_looked_52 rfl)
  (zc_so (si_goto F dX7_looked_55 rfl)
  (zc_so (si_bipush F dX7_looked_58 rfl)
  (zc_so (si_rI F hQ hn hz hlocks hr (fun _ _ => rfl) dX7_looked_60)
  (zc_nil))))))))))))))))))))))))))))))
theorem sd731 (F : zFx p l R s m args meth c D cid kv N0 xs Ls RX7 cX7_looked 2 n0 z0 nF zE d) (IH : zAllM l D cid kv N0 xs Ls d) (hQ : ∀ v h, Qq v h → v = r0 ∧ h = hF) (hn : nF = zN hF) (hz : zE = zZ hF) (hlocks : meth.locks = false) (hr : meth.sig.returnType = (some .int)) (pc : Nat) : zSo p l e R s m args below meth c D cid kv N0 xs Ls 2 (MQ below (zQc D cid kv N0 xs Ls ρ0 r0 hF) args s (nF - n0) (zE - z0) (zA N0)) ρ0 n0 z0 nF zE Qq (zCall d) pc (zTab 731 pc) := zc_tab [zt731_0] (zc_cons (sd731_0 F IH hQ hn hz hlocks hr) zc_end)
theorem dX7_judge_0 : decode cX7_judge 0 = .ok (.iload_n 1, 1) := by decide +kernel
theorem dX7_judge_1 : decode cX7_judge 1 = .ok (.iconst 5, 1) := by decide +kernel
theorem dX7_judge_2 : decode cX7_judge 2 = .ok (.invokestatic 55, 3) := by decide +kernel
theorem dX7_judge_5 : decode cX7_judge 5 = .ok (.ifCond .ne 5, 3) := by decide +kernel
theorem dX7_judge_8 : decode cX7_judge 8 = .ok (.iconst (-1), 1) := by decide +kernel
theorem dX7_judge_9 : decode cX7_judge 9 = .ok (.ireturn, 1) := by decide +kernel
theorem dX7_judge_10 : decode cX7_judge 10 = .ok (.aload_n 0, 1) := by decide +kernel
theorem dX7_judge_11 : decode cX7_judge 11 = .ok (.getfield 50, 3) := by decide +kernel
theorem dX7_judge_14 : decode cX7_judge 14 = .ok (.iload_n 1, 1) := by decide +kernel
theorem dX7_judge_15 : decode cX7_judge 15 = .ok (.aaload, 1) := by decide +kernel
theorem dX7_judge_16 : decode cX7_judge 16 = .ok (.astore_n 3, 1) := by decide +kernel
theorem dX7_judge_17 : decode cX7_judge 17 = .ok (.aload_n 3, 1) := by decide +kernel
theorem dX7_judge_18 : decode cX7_judge 18 = .ok (.invokevirtual 227, 3) := by decide +kernel
theorem dX7_judge_21 : decode cX7_judge 21 = .ok (.ifCond .ne 14, 3) := by decide +kernel
theorem dX7_judge_24 : decode cX7_judge 24 = .ok (.aload_n 3, 1) := by decide +kernel
theorem dX7_judge_25 : decode cX7_judge 25 = .ok (.getfield 230, 3) := by decide +kernel
theorem dX7_judge_28 : decode cX7_judge 28 = .ok (.iconst 4, 1) := by decide +kernel
theorem dX7_judge_29 : decode cX7_judge 29 = .ok (.if_icmp .eq 6, 3) := by decide +kernel
theorem dX7_judge_32 : decode cX7_judge 32 = .ok (.bipush (-12), 2) := by decide +kernel
theorem dX7_judge_34 : decode cX7_judge 34 = .ok (.ireturn, 1) := by decide +kernel
theorem dX7_judge_35 : decode cX7_judge 35 = .ok (.iconst 0, 1) := by decide +kernel
theorem dX7_judge_36 : decode cX7_judge 36 = .ok (.istore 4, 2) := by decide +kernel
theorem dX7_judge_38 : decode cX7_judge 38 = .ok (.iload 4, 2) := by decide +kernel
theorem dX7_judge_40 : decode cX7_judge 40 = .ok (.aload_n 0, 1) := by decide +kernel
theorem dX7_judge_41 : decode cX7_judge 41 = .ok (.getfield 12, 3) := by decide +kernel
theorem dX7_judge_44 : decode cX7_judge 44 = .ok (.getfield 169, 3) := by decide +kernel
theorem dX7_judge_47 : decode cX7_judge 47 = .ok (.if_icmp .ge 65, 3) := by decide +kernel
theorem dX7_judge_50 : decode cX7_judge 50 = .ok (.iload_n 2, 1) := by decide +kernel
theorem dX7_judge_51 : decode cX7_judge 51 = .ok (.ifCond .lt 14, 3) := by decide +kernel
theorem dX7_judge_54 : decode cX7_judge 54 = .ok (.iload_n 2, 1) := by decide +kernel
theorem dX7_judge_55 : decode cX7_judge 55 = .ok (.aload_n 3, 1) := by decide +kernel
theorem dX7_judge_56 : decode cX7_judge 56 = .ok (.getfield 233, 3) := by decide +kernel
theorem dX7_judge_59 : decode cX7_judge 59 = .ok (.iload 4, 2) := by decide +kernel
theorem dX7_judge_61 : decode cX7_judge 61 = .ok (.isub, 1) := by decide +kernel
theorem dX7_judge_62 : decode cX7_judge 62 = .ok (.if_icmp .lt 9, 3) := by decide +kernel
theorem dX7_judge_65 : decode cX7_judge 65 = .ok (.bipush 100, 2) := by decide +kernel
theorem dX7_judge_67 : decode cX7_judge 67 = .ok (.iload 4, 2) := by decide +kernel
theorem dX7_judge_69 : decode cX7_judge 69 = .ok (.iadd, 1) := by decide +kernel
theorem dX7_judge_70 : decode cX7_judge 70 = .ok (.ireturn, 1) := by decide +kernel
theorem dX7_judge_71 : decode cX7_judge 71 = .ok (.aload_n 3, 1) := by decide +kernel
theorem dX7_judge_72 : decode cX7_judge 72 = .ok (.getfield 236, 3) := by decide +kernel
theorem dX7_judge_75 : decode cX7_judge 75 = .ok (.iload_n 2, 1) := by decide +kernel
theorem dX7_judge_76 : decode cX7_judge 76 = .ok (.iload 4, 2) := by decide +kernel
theorem dX7_judge_78 : decode cX7_judge 78 = .ok (.iadd, 1) := by decide +kernel
theorem dX7_judge_79 : decode cX7_judge 79 = .ok (.laload, 1) := by decide +kernel
theorem dX7_judge_80 : decode cX7_judge 80 = .ok (.aload_n 0, 1) := by decide +kernel
theorem dX7_judge_81 : decode cX7_judge 81 = .ok (.getfield 12, 3) := by decide +kernel
theorem dX7_judge_84 : decode cX7_judge 84 = .ok (.getfield 80, 3) := by decide +kernel
theorem dX7_judge_87 : decode cX7_judge 87 = .ok (.iload 4, 2) := by decide +kernel
theorem dX7_judge_89 : decode cX7_judge 89 = .ok (.baload, 1) := by decide +kernel
theorem dX7_judge_90 : decode cX7_judge 90 = .ok (.ifCond .eq 7, 3) := by decide +kernel
theorem dX7_judge_93 : decode cX7_judge 93 = .ok (.iconst 1, 1) := by decide +kernel
theorem dX7_judge_94 : decode cX7_judge 94 = .ok (.goto 4, 3) := by decide +kernel
theorem dX7_judge_97 : decode cX7_judge 97 = .ok (.iconst 0, 1) := by decide +kernel
theorem dX7_judge_98 : decode cX7_judge 98 = .ok (.i2l, 1) := by decide +kernel
theorem dX7_judge_99 : decode cX7_judge 99 = .ok (.lcmp, 1) := by decide +kernel
theorem dX7_judge_100 : decode cX7_judge 100 = .ok (.ifCond .eq 6, 3) := by decide +kernel
theorem dX7_judge_103 : decode cX7_judge 103 = .ok (.iload 4, 2) := by decide +kernel
theorem dX7_judge_105 : decode cX7_judge 105 = .ok (.ireturn, 1) := by decide +kernel
theorem dX7_judge_106 : decode cX7_judge 106 = .ok (.iinc 4 1, 3) := by decide +kernel
theorem dX7_judge_109 : decode cX7_judge 109 = .ok (.goto (-71), 3) := by decide +kernel
theorem dX7_judge_112 : decode cX7_judge 112 = .ok (.bipush (-5), 2) := by decide +kernel
theorem dX7_judge_114 : decode cX7_judge 114 = .ok (.ireturn, 1) := by decide +kernel
theorem sd732_0 (F : zFx p l R s m args meth c D cid kv N0 xs Ls RX7 cX7_judge 5 n0 z0 nF zE d) (IH : zAllM l D cid kv N0 xs Ls d) (hQ : ∀ v h, Qq v h → v = r0 ∧ h = hF) (hn : nF = zN hF) (hz : zE = zZ hF) (hlocks : meth.locks = false) (hr : meth.sig.returnType = (some .int)) : zSoL p l e R s m args below meth c D cid kv N0 xs Ls 5 (MQ below (zQc D cid kv N0 xs Ls ρ0 r0 hF) args s (nF - n0) (zE - z0) (zA N0)) ρ0 n0 z0 nF zE Qq (zCall d) zt732_0 := zc_so (si_iload_n F dX7_judge_0 rfl)
  (zc_so (si_iconst F dX7_judge_1 rfl)
  (zc_so (si_cS  F (IH 744 mm744) mp744 (by decide) tb_251 mi744 mn744 mc744 dX7_judge_2)
  (zc_so (si_ifne F dX7_judge_5 rfl)
  (zc_so (si_iconst F dX7_judge_8 rfl)
  (zc_so (si_rI F hQ hn hz hlocks hr (fun _ _ => rfl) dX7_judge_9)
  (zc_so (si_aload_n F dX7_judge_10 rfl)
  (zc_so (si_getR (k := 9) F rfl inT7 (by decide) (by decide) rfl rfl tb_225 dX7_judge_11)
  (zc_so (si_iload_n F dX7_judge_14 rfl)
  (zc_so (si_aaloadT F dX7_judge_15)
  (zc_so (si_astore_n F dX7_judge_16 rfl)
  (zc_so (si_aload_n F dX7_judge_17 rfl)
  (zc_so (si_cV F (IH 602 mm602) mp602 (by decide) rfl rfl (by decide) tb_588 mi602 ms602 mn602 mc602 dX7_judge_18)
  (zc_so (si_ifne F dX7_judge_21 rfl)
  (zc_so (si_aload_n F dX7_judge_24 rfl)
  (zc_so (si_getI (k := 0) F rfl inT6 (by decide) (by decide) rfl rfl tb_203 dX7_judge_25)
  (zc_so (si_iconst F dX7_judge_28 rfl)
  (zc_so (si_iceq F dX7_judge_29 rfl)
  (zc_so (si_bipush F dX7_judge_32 rfl)
  (zc_so (si_rI F hQ hn hz hlocks hr (fun _ _ => rfl) dX7_judge_34)
  (zc_so (si_iconst F dX7_judge_35 rfl)
  (zc_so (si_istore F dX7_judge_36)
  (zc_so (si_iload F dX7_judge_38)
  (zc_so (si_aload_n F dX7_judge_40 rfl)
  (zc_so (si_getR (k := 0) F rfl inT7 (by decide) (by decide) rfl rfl tb_216 dX7_judge_41)
  (zc_so (si_getI (k := 7) F rfl inT2 (by decide) (by decide) rfl rfl tb_48 dX7_judge_44)
  (zc_so (si_icge F dX7_judge_47 rfl)
  (zc_so (si_iload_n F dX7_judge_50 rfl)
  (zc_so (si_iflt F dX7_judge_51 rfl)
  (zc_so (si_iload_n F dX7_judge_54 rfl)
  (zc_so (si_aload_n F dX7_judge_55 rfl)
  (zc_so (si_getI (k := 1) F rfl inT6 (by decide) (by decide) rfl rfl tb_205 dX7_judge_56)
  (zc_so (si_iload F dX7_judge_59)
  (zc_so (si_isub F dX7_judge_61)
  (zc_so (si_iclt F dX7_judge_62 rfl)
  (zc_nil)))))))))))))))))))))))))))))))))))
theorem sd732_1 (F : zFx p l R s m args meth c D cid kv N0 xs Ls RX7 cX7_judge 5 n0 z0 nF zE d) (IH : zAllM l D cid kv N0 xs Ls d) (hQ : ∀ v h, Qq v h → v = r0 ∧ h = hF) (hn : nF = zN hF) (hz : zE = zZ hF) (hlocks : meth.locks = false) (hr : meth.sig.returnType = (some .int)) : zSoL p l e R s m args below meth c D cid kv N0 xs Ls 5 (MQ below (zQc D cid kv N0 xs Ls ρ0 r0 hF) args s (nF - n0) (zE - z0) (zA N0)) ρ0 n0 z0 nF zE Qq (zCall d) zt732_1 := zc_so (si_bipush F dX7_judge_65 rfl)
  (zc_so (si_iload F dX7_judge_67)
  (zc_so (si_iadd F dX7_judge_69)
  (zc_so (si_rI F hQ hn hz hlocks hr (fun _ _ => rfl) dX7_judge_70)
  (zc_so (si_aload_n F dX7_judge_71 rfl)
  (zc_so (si_getR (k := 2) F rfl inT6 (by decide) (by decide) rfl rfl tb_207 dX7_judge_72)
  (zc_so (si_iload_n F dX7_judge_75 rfl)
  (zc_so (si_iload F dX7_judge_76)
  (zc_so (si_iadd F dX7_judge_78)
  (zc_so (si_laload F dX7_judge_79)
  (zc_so (si_aload_n F dX7_judge_80 rfl)
  (zc_so (si_getR (k := 0) F rfl inT7 (by decide) (by decide) rfl rfl tb_216 dX7_judge_81)
  (zc_so (si_getR (k := 5) F rfl inT2 (by decide) (by decide) rfl rfl tb_44 dX7_judge_84)
  (zc_so (si_iload F dX7_judge_87)
  (zc_so (si_baloadZ F dX7_judge_89)
  (zc_so (si_ifeq F dX7_judge_90 rfl)
  (zc_so (si_iconst F dX7_judge_93 rfl)
  (zc_so (si_goto F dX7_judge_94 rfl)
  (zc_so (si_iconst F dX7_judge_97 rfl)
  (zc_so (si_i2l F dX7_judge_98)
  (zc_so (si_lcmp F dX7_judge_99)
  (zc_so (si_ifeq F dX7_judge_100 rfl)
  (zc_so (si_iload F dX7_judge_103)
  (zc_so (si_rI F hQ hn hz hlocks hr (fun _ _ => rfl) dX7_judge_105)
  (zc_so (si_iinc F dX7_judge_106 rfl)
  (zc_so (si_goto F dX7_judge_109 rfl)
  (zc_so (si_bipush F dX7_judge_112 rfl)
  (zc_so (si_rI F hQ hn hz hlocks hr (fun _ _ => rfl) dX7_judge_114)
  (zc_nil))))))))))))))))))))))))))))
theorem sd732 (F : zFx p l R s m args meth c D cid kv N0 xs Ls RX7 cX7_judge 5 n0 z0 nF zE d) (IH : zAllM l D cid kv N0 xs Ls d) (hQ : ∀ v h, Qq v h → v = r0 ∧ h = hF) (hn : nF = zN hF) (hz : zE = zZ hF) (hlocks : meth.locks = false) (hr : meth.sig.returnType = (some .int)) (pc : Nat) : zSo p l e R s m args below meth c D cid kv N0 xs Ls 5 (MQ below (zQc D cid kv N0 xs Ls ρ0 r0 hF) args s (nF - n0) (zE - z0) (zA N0)) ρ0 n0 z0 nF zE Qq (zCall d) pc (zTab 732 pc) := zc_tab [zt732_0, zt732_1] (zc_cons (sd732_0 F IH hQ hn hz hlocks hr) (zc_cons (sd732_1 F IH hQ hn hz hlocks hr) zc_end))
theorem dX7_image_0 : decode cX7_image 0 = .ok (.aload_n 0, 1) := by decide +kernel
theorem dX7_image_1 : decode cX7_image 1 = .ok (.getfield 21, 3) := by decide +kernel
theorem dX7_image_4 : decode cX7_image 4 = .ok (.aload_n 0, 1) := by decide +kernel
theorem dX7_image_5 : decode cX7_image 5 = .ok (.getfield 12, 3) := by decide +kernel
theorem dX7_image_8 : decode cX7_image 8 = .ok (.invokevirtual 144, 3) := by decide +kernel
theorem dX7_image_11 : decode cX7_image 11 = .ok (.aload_n 0, 1) := by decide +kernel
theorem dX7_image_12 : decode cX7_image 12 = .ok (.getfield 31, 3) := by decide +kernel
theorem dX7_image_15 : decode cX7_image 15 = .ok (.aload_n 0, 1) := by decide +kernel
theorem dX7_image_16 : decode cX7_image 16 = .ok (.getfield 27, 3) := by decide +kernel
theorem dX7_image_19 : decode cX7_image 19 = .ok (.invokevirtual 240, 3) := by decide +kernel
theorem dX7_image_22 : decode cX7_image 22 = .ok (.aload_n 0, 1) := by decide +kernel
theorem dX7_image_23 : decode cX7_image 23 = .ok (.iconst 1, 1) := by decide +kernel
theorem dX7_image_24 : decode cX7_image 24 = .ok (.putfield 243, 3) := by decide +kernel
theorem dX7_image_27 : decode cX7_image 27 = .ok (.aload_n 0, 1) := by decide +kernel
theorem dX7_image_28 : decode cX7_image 28 = .ok (.getfield 12, 3) := by decide +kernel
theorem dX7_image_31 : decode cX7_image 31 = .ok (.getfield 169, 3) := by decide +kernel
theorem dX7_image_34 : decode cX7_image 34 = .ok (.ireturn, 1) := by decide +kernel
theorem sd733_0 (F : zFx p l R s m args meth c D cid kv N0 xs Ls RX7 cX7_image 1 n0 z0 nF zE d) (IH : zAllM l D cid kv N0 xs Ls d) (hQ : ∀ v h, Qq v h → v = r0 ∧ h = hF) (hn : nF = zN hF) (hz : zE = zZ hF) (hlocks : meth.locks = false) (hr : meth.sig.returnType = (some .int)) : zSoL p l e R s m args below meth c D cid kv N0 xs Ls 1 (MQ below (zQc D cid kv N0 xs Ls ρ0 r0 hF) args s (nF - n0) (zE - z0) (zA N0)) ρ0 n0 z0 nF zE Qq (zCall d) zt733_0 := zc_so (si_aload_n F dX7_image_0 rfl)
  (zc_so (si_getR (k := 2) F rfl inT7 (by decide) (by decide) rfl rfl tb_218 dX7_image_1)
  (zc_so (si_aload_n F dX7_image_4 rfl)
  (zc_so (si_getR (k := 0) F rfl inT7 (by decide) (by decide) rfl rfl tb_216 dX7_image_5)
  (zc_so (si_cV F (IH 202 mm202) mp202 (by decide) rfl rfl (by decide) tb_304 mi202 ms202 mn202 mc202 dX7_image_8)
  (zc_so (si_aload_n F dX7_image_11 rfl)
  (zc_so (si_getR (k := 4) F rfl inT7 (by decide) (by decide) rfl rfl tb_220 dX7_image_12)
  (zc_so (si_aload_n F dX7_image_15 rfl)
  (zc_so (si_getR (k := 3) F rfl inT7 (by decide) (by decide) rfl rfl tb_219 dX7_image_16)
  (zc_so (si_cV F (IH 102 mm102) mp102 (by decide) rfl rfl (by decide) tb_596 mi102 ms102 mn102 mc102 dX7_image_19)
  (zc_so (si_aload_n F dX7_image_22 rfl)
  (zc_so (si_iconst F dX7_image_23 rfl)
  (zc_so (si_putZ (k := 5) F rfl inT7 (by decide) (by decide) rfl rfl rfl rfl tyX7_ok nmX7 tb_221 dX7_image_24)
  (zc_so (si_aload_n F dX7_image_27 rfl)
  (zc_so (si_getR (k := 0) F rfl inT7 (by decide) (by decide) rfl rfl tb_216 dX7_image_28)
  (zc_so (si_getI (k := 7) F rfl inT2 (by decide) (by decide) rfl rfl tb_48 dX7_image_31)
  (zc_so (si_rI F hQ hn hz hlocks hr (fun _ _ => rfl) dX7_image_34)
  (zc_nil)))))))))))))))))
theorem sd733 (F : zFx p l R s m args meth c D cid kv N0 xs Ls RX7 cX7_image 1 n0 z0 nF zE d) (IH : zAllM l D cid kv N0 xs Ls d) (hQ : ∀ v h, Qq v h → v = r0 ∧ h = hF) (hn : nF = zN hF) (hz : zE = zZ hF) (hlocks : meth.locks = false) (hr : meth.sig.returnType = (some .int)) (pc : Nat) : zSo p l e R s m args below meth c D cid kv N0 xs Ls 1 (MQ below (zQc D cid kv N0 xs Ls ρ0 r0 hF) args s (nF - n0) (zE - z0) (zA N0)) ρ0 n0 z0 nF zE Qq (zCall d) pc (zTab 733 pc) := zc_tab [zt733_0] (zc_cons (sd733_0 F IH hQ hn hz hlocks hr) zc_end)
theorem dX7_undo_0 : decode cX7_undo 0 = .ok (.aload_n 0, 1) := by decide +kernel
theorem dX7_undo_1 : decode cX7_undo 1 = .ok (.getfield 243, 3) := by decide +kernel
theorem dX7_undo_4 : decode cX7_undo 4 = .ok (.ifCond .ne 6, 3) := by decide +kernel
theorem dX7_undo_7 : decode cX7_undo 7 = .ok (.bipush (-3), 2) := by decide +kernel
theorem dX7_undo_9 : decode cX7_undo 9 = .ok (.ireturn, 1) := by decide +kernel
theorem dX7_undo_10 : decode cX7_undo 10 = .ok (.aload_n 0, 1) := by decide +kernel
theorem dX7_undo_11 : decode cX7_undo 11 = .ok (.getfield 12, 3) := by decide +kernel
theorem dX7_undo_14 : decode cX7_undo 14 = .ok (.aload_n 0, 1) := by decide +kernel
theorem dX7_undo_15 : decode cX7_undo 15 = .ok (.getfield 21, 3) := by decide +kernel
theorem dX7_undo_18 : decode cX7_undo 18 = .ok (.invokevirtual 144, 3) := by decide +kernel
theorem dX7_undo_21 : decode cX7_undo 21 = .ok (.aload_n 0, 1) := by decide +kernel
theorem dX7_undo_22 : decode cX7_undo 22 = .ok (.getfield 27, 3) := by decide +kernel
theorem dX7_undo_25 : decode cX7_undo 25 = .ok (.aload_n 0, 1) := by decide +kernel
theorem dX7_undo_26 : decode cX7_undo 26 = .ok (.getfield 31, 3) := by decide +kernel
theorem dX7_undo_29 : decode cX7_undo 29 = .ok (.invokevirtual 240, 3) := by decide +kernel
theorem dX7_undo_32 : decode cX7_undo 32 = .ok (.aload_n 0, 1) := by decide +kernel
theorem dX7_undo_33 : decode cX7_undo 33 = .ok (.getfield 12, 3) := by decide +kernel
theorem dX7_undo_36 : decode cX7_undo 36 = .ok (.getfield 169, 3) := by decide +kernel
theorem dX7_undo_39 : decode cX7_undo 39 = .ok (.ireturn, 1) := by decide +kernel
theorem sd734_0 (F : zFx p l R s m args meth c D cid kv N0 xs Ls RX7 cX7_undo 1 n0 z0 nF zE d) (IH : zAllM l D cid kv N0 xs Ls d) (hQ : ∀ v h, Qq v h → v = r0 ∧ h = hF) (hn : nF = zN hF) (hz : zE = zZ hF) (hlocks : meth.locks = false) (hr : meth.sig.returnType = (some .int)) : zSoL p l e R s m args below meth c D cid kv N0 xs Ls 1 (MQ below (zQc D cid kv N0 xs Ls ρ0 r0 hF) args s (nF - n0) (zE - z0) (zA N0)) ρ0 n0 z0 nF zE Qq (zCall d) zt734_0 := zc_so (si_aload_n F dX7_undo_0 rfl)
  (zc_so (si_getI (k := 5) F rfl inT7 (by decide) (by decide) rfl rfl tb_221 dX7_undo_1)
  (zc_so (si_ifne F dX7_undo_4 rfl)
  (zc_so (si_bipush F dX7_undo_7 rfl)
  (zc_so (si_rI F hQ hn hz hlocks hr (fun _ _ => rfl) dX7_undo_9)
  (zc_so (si_aload_n F dX7_undo_10 rfl)
  (zc_so (si_getR (k := 0) F rfl inT7 (by decide) (by decide) rfl rfl tb_216 dX7_undo_11)
  (zc_so (si_aload_n F dX7_undo_14 rfl)
  (zc_so (si_getR (k := 2) F rfl inT7 (by decide) (by decide) rfl rfl tb_218 dX7_undo_15)
  (zc_so (si_cV F (IH 202 mm202) mp202 (by decide) rfl rfl (by decide) tb_304 mi202 ms202 mn202 mc202 dX7_undo_18)
  (zc_so (si_aload_n F dX7_undo_21 rfl)
  (zc_so (si_getR (k := 3) F rfl inT7 (by decide) (by decide) rfl rfl tb_219 dX7_undo_22)
  (zc_so (si_aload_n F dX7_undo_25 rfl)
  (zc_so (si_getR (k := 4) F rfl inT7 (by decide) (by decide) rfl rfl tb_220 dX7_undo_26)
  (zc_so (si_cV F (IH 102 mm102) mp102 (by decide) rfl rfl (by decide) tb_596 mi102 ms102 mn102 mc102 dX7_undo_29)
  (zc_so (si_aload_n F dX7_undo_32 rfl)
  (zc_so (si_getR (k := 0) F rfl inT7 (by decide) (by decide) rfl rfl tb_216 dX7_undo_33)
  (zc_so (si_getI (k := 7) F rfl inT2 (by decide) (by decide) rfl rfl tb_48 dX7_undo_36)
  (zc_so (si_rI F hQ hn hz hlocks hr (fun _ _ => rfl) dX7_undo_39)
  (zc_nil)))))))))))))))))))
theorem sd734 (F : zFx p l R s m args meth c D cid kv N0 xs Ls RX7 cX7_undo 1 n0 z0 nF zE d) (IH : zAllM l D cid kv N0 xs Ls d) (hQ : ∀ v h, Qq v h → v = r0 ∧ h = hF) (hn : nF = zN hF) (hz : zE = zZ hF) (hlocks : meth.locks = false) (hr : meth.sig.returnType = (some .int)) (pc : Nat) : zSo p l e R s m args below meth c D cid kv N0 xs Ls 1 (MQ below (zQc D cid kv N0 xs Ls ρ0 r0 hF) args s (nF - n0) (zE - z0) (zA N0)) ρ0 n0 z0 nF zE Qq (zCall d) pc (zTab 734 pc) := zc_tab [zt734_0] (zc_cons (sd734_0 F IH hQ hn hz hlocks hr) zc_end)
theorem dX7_act_0 : decode cX7_act 0 = .ok (.aload_n 0, 1) := by decide +kernel
theorem dX7_act_1 : decode cX7_act 1 = .ok (.getfield 44, 3) := by decide +kernel
theorem dX7_act_4 : decode cX7_act 4 = .ok (.invokevirtual 247, 3) := by decide +kernel
theorem dX7_act_7 : decode cX7_act 7 = .ok (.aload_n 0, 1) := by decide +kernel
theorem dX7_act_8 : decode cX7_act 8 = .ok (.iload_n 1, 1) := by decide +kernel
theorem dX7_act_9 : decode cX7_act 9 = .ok (.invokevirtual 63, 3) := by decide +kernel
theorem dX7_act_12 : decode cX7_act 12 = .ok (.ifCond .eq 11, 3) := by decide +kernel
theorem dX7_act_15 : decode cX7_act 15 = .ok (.iload_n 2, 1) := by decide +kernel
theorem dX7_act_16 : decode cX7_act 16 = .ok (.iconst 2, 1) := by decide +kernel
theorem dX7_act_17 : decode cX7_act 17 = .ok (.invokestatic 55, 3) := by decide +kernel
theorem dX7_act_20 : decode cX7_act 20 = .ok (.ifCond .ne 5, 3) := by decide +kernel
theorem dX7_act_23 : decode cX7_act 23 = .ok (.iconst 0, 1) := by decide +kernel
theorem dX7_act_24 : decode cX7_act 24 = .ok (.ireturn, 1) := by decide +kernel
theorem dX7_act_25 : decode cX7_act 25 = .ok (.aload_n 0, 1) := by decide +kernel
theorem dX7_act_26 : decode cX7_act 26 = .ok (.getfield 44, 3) := by decide +kernel
theorem dX7_act_29 : decode cX7_act 29 = .ok (.iload_n 1, 1) := by decide +kernel
theorem dX7_act_30 : decode cX7_act 30 = .ok (.aload_n 0, 1) := by decide +kernel
theorem dX7_act_31 : decode cX7_act 31 = .ok (.getfield 12, 3) := by decide +kernel
theorem dX7_act_34 : decode cX7_act 34 = .ok (.getfield 71, 3) := by decide +kernel
theorem dX7_act_37 : decode cX7_act 37 = .ok (.iload_n 1, 1) := by decide +kernel
theorem dX7_act_38 : decode cX7_act 38 = .ok (.iaload, 1) := by decide +kernel
theorem dX7_act_39 : decode cX7_act 39 = .ok (.aload_n 0, 1) := by decide +kernel
theorem dX7_act_40 : decode cX7_act 40 = .ok (.getfield 12, 3) := by decide +kernel
theorem dX7_act_43 : decode cX7_act 43 = .ok (.getfield 67, 3) := by decide +kernel
theorem dX7_act_46 : decode cX7_act 46 = .ok (.iload_n 1, 1) := by decide +kernel
theorem dX7_act_47 : decode cX7_act 47 = .ok (.iaload, 1) := by decide +kernel
theorem dX7_act_48 : decode cX7_act 48 = .ok (.iload_n 2, 1) := by decide +kernel
theorem dX7_act_49 : decode cX7_act 49 = .ok (.iload_n 3, 1) := by decide +kernel
theorem dX7_act_50 : decode cX7_act 50 = .ok (.invokevirtual 250, 3) := by decide +kernel
theorem dX7_act_53 : decode cX7_act 53 = .ok (.ireturn, 1) := by decide +kernel
theorem sd735_0 (F : zFx p l R s m args meth c D cid kv N0 xs Ls RX7 cX7_act 4 n0 z0 nF zE d) (IH : zAllM l D cid kv N0 xs Ls d) (hQ : ∀ v h, Qq v h → v = r0 ∧ h = hF) (hn : nF = zN hF) (hz : zE = zZ hF) (hlocks : meth.locks = false) (hr : meth.sig.returnType = (some .int)) : zSoL p l e R s m args below meth c D cid kv N0 xs Ls 4 (MQ below (zQc D cid kv N0 xs Ls ρ0 r0 hF) args s (nF - n0) (zE - z0) (zA N0)) ρ0 n0 z0 nF zE Qq (zCall d) zt735_0 := zc_so (si_aload_n F dX7_act_0 rfl)
  (zc_so (si_getR (k := 8) F rfl inT7 (by decide) (by decide) rfl rfl tb_224 dX7_act_1)
  (zc_so (si_cV F (IH 3 mm3) mp3 (by decide) rfl rfl (by decide) tb_613 mi3 ms3 mn3 mc3 dX7_act_4)
  (zc_so (si_aload_n F dX7_act_7 rfl)
  (zc_so (si_iload_n F dX7_act_8 rfl)
  (zc_so (si_cV F (IH 743 mm743) mp743 (by decide) rfl rfl (by decide) tb_266 mi743 ms743 mn743 mc743 dX7_act_9)
  (zc_so (si_ifeq F dX7_act_12 rfl)
  (zc_so (si_iload_n F dX7_act_15 rfl)
  (zc_so (si_iconst F dX7_act_16 rfl)
  (zc_so (si_cS  F (IH 744 mm744) mp744 (by decide) tb_251 mi744 mn744 mc744 dX7_act_17)
  (zc_so (si_ifne F dX7_act_20 rfl)
  (zc_so (si_iconst F dX7_act_23 rfl)
  (zc_so (si_rI F hQ hn hz hlocks hr (fun _ _ => rfl) dX7_act_24)
  (zc_so (si_aload_n F dX7_act_25 rfl)
  (zc_so (si_getR (k := 8) F rfl inT7 (by decide) (by decide) rfl rfl tb_224 dX7_act_26)
  (zc_so (si_iload_n F dX7_act_29 rfl)
  (zc_so (si_aload_n F dX7_act_30 rfl)
  (zc_so (si_getR (k := 0) F rfl inT7 (by decide) (by decide) rfl rfl tb_216 dX7_act_31)
  (zc_so (si_getR (k := 1) F rfl inT2 (by decide) (by decide) rfl rfl tb_36 dX7_act_34)
  (zc_so (si_iload_n F dX7_act_37 rfl)
  (zc_so (si_iaload F dX7_act_38)
  (zc_so (si_aload_n F dX7_act_39 rfl)
  (zc_so (si_getR (k := 0) F rfl inT7 (by decide) (by decide) rfl rfl tb_216 dX7_act_40)
  (zc_so (si_getR (k := 0) F rfl inT2 (by decide) (by decide) rfl rfl tb_34 dX7_act_43)
  (zc_so (si_iload_n F dX7_act_46 rfl)
  (zc_so (si_iaload F dX7_act_47)
  (zc_so (si_iload_n F dX7_act_48 rfl)
  (zc_so (si_iload_n F dX7_act_49 rfl)
  (zc_so (si_cV F (IH 5 mm5) mp5 (by decide) rfl rfl (by decide) tb_617 mi5 ms5 mn5 mc5 dX7_act_50)
  (zc_so (si_rI F hQ hn hz hlocks hr (fun _ _ => rfl) dX7_act_53)
  (zc_nil))))))))))))))))))))))))))))))
theorem sd735 (F : zFx p l R s m args meth c D cid kv N0 xs Ls RX7 cX7_act 4 n0 z0 nF zE d) (IH : zAllM l D cid kv N0 xs Ls d) (hQ : ∀ v h, Qq v h → v = r0 ∧ h = hF) (hn : nF = zN hF) (hz : zE = zZ hF) (hlocks : meth.locks = false) (hr : meth.sig.returnType = (some .int)) (pc : Nat) : zSo p l e R s m args below meth c D cid kv N0 xs Ls 4 (MQ below (zQc D cid kv N0 xs Ls ρ0 r0 hF) args s (nF - n0) (zE - z0) (zA N0)) ρ0 n0 z0 nF zE Qq (zCall d) pc (zTab 735 pc) := zc_tab [zt735_0] (zc_cons (sd735_0 F IH hQ hn hz hlocks hr) zc_end)
theorem dX7_trace_0 : decode cX7_trace 0 = .ok (.iload_n 1, 1) := by decide +kernel
theorem dX7_trace_1 : decode cX7_trace 1 = .ok (.aload_n 0, 1) := by decide +kernel
theorem dX7_trace_2 : decode cX7_trace 2 = .ok (.getfield 44, 3) := by decide +kernel
theorem dX7_trace_5 : decode cX7_trace 5 = .ok (.invokevirtual 254, 3) := by decide +kernel
theorem dX7_trace_8 : decode cX7_trace 8 = .ok (.iconst 1, 1) := by decide +kernel
theorem dX7_trace_9 : decode cX7_trace 9 = .ok (.isub, 1) := by decide +kernel
theorem dX7_trace_10 : decode cX7_trace 10 = .ok (.invokestatic 55, 3) := by decide +kernel
theorem dX7_trace_13 : decode cX7_trace 13 = .ok (.ifCond .ne 5, 3) := by decide +kernel
theorem dX7_trace_16 : decode cX7_trace 16 = .ok (.iconst (-1), 1) := by decide +kernel
theorem dX7_trace_17 : decode cX7_trace 17 = .ok (.ireturn, 1) := by decide +kernel
theorem dX7_trace_18 : decode cX7_trace 18 = .ok (.aload_n 0, 1) := by decide +kernel
theorem dX7_trace_19 : decode cX7_trace 19 = .ok (.getfield 44, 3) := by decide +kernel
theorem dX7_trace_22 : decode cX7_trace 22 = .ok (.getfield 257, 3) := by decide +kernel
theorem dX7_trace_25 : decode cX7_trace 25 = .ok (.iload_n 1, 1) := by decide +kernel
theorem dX7_trace_26 : decode cX7_trace 26 = .ok (.iaload, 1) := by decide +kernel
theorem dX7_trace_27 : decode cX7_trace 27 = .ok (.ireturn, 1) := by decide +kernel
theorem sd736_0 (F : zFx p l R s m args meth c D cid kv N0 xs Ls RX7 cX7_trace 2 n0 z0 nF zE d) (IH : zAllM l D cid kv N0 xs Ls d) (hQ : ∀ v h, Qq v h → v = r0 ∧ h = hF) (hn : nF = zN hF) (hz : zE = zZ hF) (hlocks : meth.locks = false) (hr : meth.sig.returnType = (some .int)) : zSoL p l e R s m args below meth c D cid kv N0 xs Ls 2 (MQ below (zQc D cid kv N0 xs Ls ρ0 r0 hF) args s (nF - n0) (zE - z0) (zA N0)) ρ0 n0 z0 nF zE Qq (zCall d) zt736_0 := zc_so (si_iload_n F dX7_trace_0 rfl)
  (zc_so (si_aload_n F dX7_trace_1 rfl)
  (zc_so (si_getR (k := 8) F rfl inT7 (by decide) (by decide) rfl rfl tb_224 dX7_trace_2)
  (zc_so (si_cV F (IH 4 mm4) mp4 (by decide) rfl rfl (by decide) tb_646 mi4 ms4 mn4 mc4 dX7_trace_5)
  (zc_so (si_iconst F dX7_trace_8 rfl)
  (zc_so (si_isub F dX7_trace_9)
  (zc_so (si_cS  F (IH 744 mm744) mp744 (by decide) tb_251 mi744 mn744 mc744 dX7_trace_10)
  (zc_so (si_ifne F dX7_trace_13 rfl)
  (zc_so (si_iconst F dX7_trace_16 rfl)
  (zc_so (si_rI F hQ hn hz hlocks hr (fun _ _ => rfl) dX7_trace_17)
  (zc_so (si_aload_n F dX7_trace_18 rfl)
  (zc_so (si_getR (k := 8) F rfl inT7 (by decide) (by decide) rfl rfl tb_224 dX7_trace_19)
  (zc_so (si_getR (k := 0) F rfl inT0 (by decide) (by decide) rfl rfl tb_178 dX7_trace_22)
  (zc_so (si_iload_n F dX7_trace_25 rfl)
  (zc_so (si_iaload F dX7_trace_26)
  (zc_so (si_rI F hQ hn hz hlocks hr (fun _ _ => rfl) dX7_trace_27)
  (zc_nil))))))))))))))))
theorem sd736 (F : zFx p l R s m args meth c D cid kv N0 xs Ls RX7 cX7_trace 2 n0 z0 nF zE d) (IH : zAllM l D cid kv N0 xs Ls d) (hQ : ∀ v h, Qq v h → v = r0 ∧ h = hF) (hn : nF = zN hF) (hz : zE = zZ hF) (hlocks : meth.locks = false) (hr : meth.sig.returnType = (some .int)) (pc : Nat) : zSo p l e R s m args below meth c D cid kv N0 xs Ls 2 (MQ below (zQc D cid kv N0 xs Ls ρ0 r0 hF) args s (nF - n0) (zE - z0) (zA N0)) ρ0 n0 z0 nF zE Qq (zCall d) pc (zTab 736 pc) := zc_tab [zt736_0] (zc_cons (sd736_0 F IH hQ hn hz hlocks hr) zc_end)
theorem dX7_taken_0 : decode cX7_taken 0 = .ok (.iload_n 2, 1) := by decide +kernel
theorem dX7_taken_1 : decode cX7_taken 1 = .ok (.bipush 6, 2) := by decide +kernel
theorem dX7_taken_3 : decode cX7_taken 3 = .ok (.invokestatic 55, 3) := by decide +kernel
theorem dX7_taken_6 : decode cX7_taken 6 = .ok (.ifCond .ne 6, 3) := by decide +kernel
theorem dX7_taken_9 : decode cX7_taken 9 = .ok (.bipush (-2), 2) := by decide +kernel
theorem dX7_taken_11 : decode cX7_taken 11 = .ok (.ireturn, 1) := by decide +kernel
theorem dX7_taken_12 : decode cX7_taken 12 = .ok (.aload_n 0, 1) := by decide +kernel
theorem dX7_taken_13 : decode cX7_taken 13 = .ok (.iload_n 1, 1) := by decide +kernel
theorem dX7_taken_14 : decode cX7_taken 14 = .ok (.invokevirtual 63, 3) := by decide +kernel
theorem dX7_taken_17 : decode cX7_taken 17 = .ok (.ifCond .ne 6, 3) := by decide +kernel
theorem dX7_taken_20 : decode cX7_taken 20 = .ok (.bipush (-11), 2) := by decide +kernel
theorem dX7_taken_22 : decode cX7_taken 22 = .ok (.ireturn, 1) := by decide +kernel
theorem dX7_taken_23 : decode cX7_taken 23 = .ok (.aload_n 0, 1) := by decide +kernel
theorem dX7_taken_24 : decode cX7_taken 24 = .ok (.getfield 12, 3) := by decide +kernel
theorem dX7_taken_27 : decode cX7_taken 27 = .ok (.getfield 67, 3) := by decide +kernel
theorem dX7_taken_30 : decode cX7_taken 30 = .ok (.iload_n 1, 1) := by decide +kernel
theorem dX7_taken_31 : decode cX7_taken 31 = .ok (.iaload, 1) := by decide +kernel
theorem dX7_taken_32 : decode cX7_taken 32 = .ok (.istore_n 3, 1) := by decide +kernel
theorem dX7_taken_33 : decode cX7_taken 33 = .ok (.iload_n 3, 1) := by decide +kernel
theorem dX7_taken_34 : decode cX7_taken 34 = .ok (.iload_n 2, 1) := by decide +kernel
theorem dX7_taken_35 : decode cX7_taken 35 = .ok (.invokestatic 260, 3) := by decide +kernel
theorem dX7_taken_38 : decode cX7_taken 38 = .ok (.ifCond .eq 7, 3) := by decide +kernel
theorem dX7_taken_41 : decode cX7_taken 41 = .ok (.iload_n 3, 1) := by decide +kernel
theorem dX7_taken_42 : decode cX7_taken 42 = .ok (.goto 5, 3) := by decide +kernel
theorem dX7_taken_45 : decode cX7_taken 45 = .ok (.bipush (-12), 2) := by decide +kernel
theorem dX7_taken_47 : decode cX7_taken 47 = .ok (.ireturn, 1) := by decide +kernel
theorem sd737_0 (F : zFx p l R s m args meth c D cid kv N0 xs Ls RX7 cX7_taken 4 n0 z0 nF zE d) (IH : zAllM l D cid kv N0 xs Ls d) (hQ : ∀ v h, Qq v h → v = r0 ∧ h = hF) (hn : nF = zN hF) (hz : zE = zZ hF) (hlocks : meth.locks = false) (hr : meth.sig.returnType = (some .int)) : zSoL p l e R s m args below meth c D cid kv N0 xs Ls 4 (MQ below (zQc D cid kv N0 xs Ls ρ0 r0 hF) args s (nF - n0) (zE - z0) (zA N0)) ρ0 n0 z0 nF zE Qq (zCall d) zt737_0 := zc_so (si_iload_n F dX7_taken_0 rfl)
  (zc_so (si_bipush F dX7_taken_1 rfl)
  (zc_so (si_cS  F (IH 744 mm744) mp744 (by decide) tb_251 mi744 mn744 mc744 dX7_taken_3)
  (zc_so (si_ifne F dX7_taken_6 rfl)
  (zc_so (si_bipush F dX7_taken_9 rfl)
  (zc_so (si_rI F hQ hn hz hlocks hr (fun _ _ => rfl) dX7_taken_11)
  (zc_so (si_aload_n F dX7_taken_12 rfl)
  (zc_so (si_iload_n F dX7_taken_13 rfl)
  (zc_so (si_cV F (IH 743 mm743) mp743 (by decide) rfl rfl (by decide) tb_266 mi743 ms743 mn743 mc743 dX7_taken_14)
  (zc_so (si_ifne F dX7_taken_17 rfl)
  (zc_so (si_bipush F dX7_taken_20 rfl)
  (zc_so (si_rI F hQ hn hz hlocks hr (fun _ _ => rfl) dX7_taken_22)
  (zc_so (si_aload_n F dX7_taken_23 rfl)
  (zc_so (si_getR (k := 0) F rfl inT7 (by decide) (by decide) rfl rfl tb_216 dX7_taken_24)
  (zc_so (si_getR (k := 0) F rfl inT2 (by decide) (by decide) rfl rfl tb_34 dX7_taken_27)
  (zc_so (si_iload_n F dX7_taken_30 rfl)
  (zc_so (si_iaload F dX7_taken_31)
  (zc_so (si_istore_n F dX7_taken_32 rfl)
  (zc_so (si_iload_n F dX7_taken_33 rfl)
  (zc_so (si_iload_n F dX7_taken_34 rfl)
  (zc_so (si_cS  F (IH 2 mm2) mp2 (by decide) tb_655 mi2 mn2 mc2 dX7_taken_35)
  (zc_so (si_ifeq F dX7_taken_38 rfl)
  (zc_so (si_iload_n F dX7_taken_41 rfl)
  (zc_so (si_goto F dX7_taken_42 rfl)
  (zc_so (si_bipush F dX7_taken_45 rfl)
  (zc_so (si_rI F hQ hn hz hlocks hr (fun _ _ => rfl) dX7_taken_47)
  (zc_nil))))))))))))))))))))))))))
theorem sd737 (F : zFx p l R s m args meth c D cid kv N0 xs Ls RX7 cX7_taken 4 n0 z0 nF zE d) (IH : zAllM l D cid kv N0 xs Ls d) (hQ : ∀ v h, Qq v h → v = r0 ∧ h = hF) (hn : nF = zN hF) (hz : zE = zZ hF) (hlocks : meth.locks = false) (hr : meth.sig.returnType = (some .int)) (pc : Nat) : zSo p l e R s m args below meth c D cid kv N0 xs Ls 4 (MQ below (zQc D cid kv N0 xs Ls ρ0 r0 hF) args s (nF - n0) (zE - z0) (zA N0)) ρ0 n0 z0 nF zE Qq (zCall d) pc (zTab 737 pc) := zc_tab [zt737_0] (zc_cons (sd737_0 F IH hQ hn hz hlocks hr) zc_end)
theorem dX7_count_0 : decode cX7_count 0 = .ok (.iload_n 1, 1) := by decide +kernel
theorem dX7_count_1 : decode cX7_count 1 = .ok (.tableswitch 105 0 6 #[43, 51, 56, 67, 78, 89, 97], 43) := by decide +kernel
theorem dX7_count_44 : decode cX7_count 44 = .ok (.aload_n 0, 1) := by decide +kernel
theorem dX7_count_45 : decode cX7_count 45 = .ok (.getfield 12, 3) := by decide +kernel
theorem dX7_count_48 : decode cX7_count 48 = .ok (.getfield 169, 3) := by decide +kernel
theorem dX7_count_51 : decode cX7_count 51 = .ok (.ireturn, 1) := by decide +kernel
theorem dX7_count_52 : decode cX7_count 52 = .ok (.aload_n 0, 1) := by decide +kernel
theorem dX7_count_53 : decode cX7_count 53 = .ok (.getfield 113, 3) := by decide +kernel
theorem dX7_count_56 : decode cX7_count 56 = .ok (.ireturn, 1) := by decide +kernel
theorem dX7_count_57 : decode cX7_count 57 = .ok (.aload_n 0, 1) := by decide +kernel
theorem dX7_count_58 : decode cX7_count 58 = .ok (.getfield 27, 3) := by decide +kernel
theorem dX7_count_61 : decode cX7_count 61 = .ok (.getfield 175, 3) := by decide +kernel
theorem dX7_count_64 : decode cX7_count 64 = .ok (.getfield 208, 3) := by decide +kernel
theorem dX7_count_67 : decode cX7_count 67 = .ok (.ireturn, 1) := by decide +kernel
theorem dX7_count_68 : decode cX7_count 68 = .ok (.aload_n 0, 1) := by decide +kernel
theorem dX7_count_69 : decode cX7_count 69 = .ok (.getfield 27, 3) := by decide +kernel
theorem dX7_count_72 : decode cX7_count 72 = .ok (.getfield 205, 3) := by decide +kernel
theorem dX7_count_75 : decode cX7_count 75 = .ok (.getfield 208, 3) := by decide +kernel
theorem dX7_count_78 : decode cX7_count 78 = .ok (.ireturn, 1) := by decide +kernel
theorem dX7_count_79 : decode cX7_count 79 = .ok (.aload_n 0, 1) := by decide +kernel
theorem dX7_count_80 : decode cX7_count 80 = .ok (.getfield 27, 3) := by decide +kernel
theorem dX7_count_83 : decode cX7_count 83 = .ok (.getfield 221, 3) := by decide +kernel
theorem dX7_count_86 : decode cX7_count 86 = .ok (.getfield 208, 3) := by decide +kernel
theorem dX7_count_89 : decode cX7_count 89 = .ok (.ireturn, 1) := by decide +kernel
theorem dX7_count_90 : decode cX7_count 90 = .ok (.aload_n 0, 1) := by decide +kernel
theorem dX7_count_91 : decode cX7_count 91 = .ok (.getfield 37, 3) := by decide +kernel
theorem dX7_count_94 : decode cX7_count 94 = .ok (.getfield 263, 3) := by decide +kernel
theorem dX7_count_97 : decode cX7_count 97 = .ok (.ireturn, 1) := by decide +kernel
theorem dX7_count_98 : decode cX7_count 98 = .ok (.aload_n 0, 1) := by decide +kernel
theorem dX7_count_99 : decode cX7_count 99 = .ok (.getfield 44, 3) := by decide +kernel
theorem dX7_count_102 : decode cX7_count 102 = .ok (.getfield 264, 3) := by decide +kernel
theorem dX7_count_105 : decode cX7_count 105 = .ok (.ireturn, 1) := by decide +kernel
theorem dX7_count_106 : decode cX7_count 106 = .ok (.bipush (-2), 2) := by decide +kernel
theorem dX7_count_108 : decode cX7_count 108 = .ok (.ireturn, 1) := by decide +kernel
theorem sd738_0 (F : zFx p l R s m args meth c D cid kv N0 xs Ls RX7 cX7_count 2 n0 z0 nF zE d) (IH : zAllM l D cid kv N0 xs Ls d) (hQ : ∀ v h, Qq v h → v = r0 ∧ h = hF) (hn : nF = zN hF) (hz : zE = zZ hF) (hlocks : meth.locks = false) (hr : meth.sig.returnType = (some .int)) : zSoL p l e R s m args below meth c D cid kv N0 xs Ls 2 (MQ below (zQc D cid kv N0 xs Ls ρ0 r0 hF) args s (nF - n0) (zE - z0) (zA N0)) ρ0 n0 z0 nF zE Qq (zCall d) zt738_0 := zc_so (si_iload_n F dX7_count_0 rfl)
  (zc_so (so_swT F.1.1 F.1.2.1 dX7_count_1 rfl rfl ⟨rfl, rfl, ⟨rfl, rfl, ⟨rfl, rfl, ⟨rfl, rfl, ⟨rfl, rfl, ⟨rfl, rfl, ⟨rfl, rfl, trivial⟩⟩⟩⟩⟩⟩⟩)
  (zc_so (si_aload_n F dX7_count_44 rfl)
  (zc_so (si_getR (k := 0) F rfl inT7 (by decide) (by decide) rfl rfl tb_216 dX7_count_45)
  (zc_so (si_getI (k := 7) F rfl inT2 (by decide) (by decide) rfl rfl tb_48 dX7_count_48)
  (zc_so (si_rI F hQ hn hz hlocks hr (fun _ _ => rfl) dX7_count_51)
  (zc_so (si_aload_n F dX7_count_52 rfl)
  (zc_so (si_getI (k := 7) F rfl inT7 (by decide) (by decide) rfl rfl tb_223 dX7_count_53)
  (zc_so (si_rI F hQ hn hz hlocks hr (fun _ _ => rfl) dX7_count_56)
  (zc_so (si_aload_n F dX7_count_57 rfl)
  (zc_so (si_getR (k := 3) F rfl inT7 (by decide) (by decide) rfl rfl tb_219 dX7_count_58)
  (zc_so (si_getR (k := 0) F rfl inT1 (by decide) (by decide) rfl rfl tb_120 dX7_count_61)
  (zc_nil))))))))))))
theorem sd738_1 (F : zFx p l R s m args meth c D cid kv N0 xs Ls RX7 cX7_count 2 n0 z0 nF zE d) (IH : zAllM l D cid kv N0 xs Ls d) (hQ : ∀ v h, Qq v h → v = r0 ∧ h = hF) (hn : nF = zN hF) (hz : zE = zZ hF) (hlocks : meth.locks = false) (hr : meth.sig.returnType = (some .int)) : zSoL p l e R s m args below meth c D cid kv N0 xs Ls 2 (MQ below (zQc D cid kv N0 xs Ls ρ0 r0 hF) args s (nF - n0) (zE - z0) (zA N0)) ρ0 n0 z0 nF zE Qq (zCall d) zt738_1 := zc_so (si_getI (k := 3) F rfl inT3 (by decide) (by decide) rfl rfl tb_109 dX7_count_64)
  (zc_so (si_rI F hQ hn hz hlocks hr (fun _ _ => rfl) dX7_count_67)
  (zc_so (si_aload_n F dX7_count_68 rfl)
  (zc_so (si_getR (k := 3) F rfl inT7 (by decide) (by decide) rfl rfl tb_219 dX7_count_69)
  (zc_so (si_getR (k := 1) F rfl inT1 (by decide) (by decide) rfl rfl tb_122 dX7_count_72)
  (zc_so (si_getI (k := 3) F rfl inT3 (by decide) (by decide) rfl rfl tb_109 dX7_count_75)
  (zc_so (si_rI F hQ hn hz hlocks hr (fun _ _ => rfl) dX7_count_78)
  (zc_so (si_aload_n F dX7_count_79 rfl)
  (zc_so (si_getR (k := 3) F rfl inT7 (by decide) (by decide) rfl rfl tb_219 dX7_count_80)
  (zc_so (si_getR (k := 2) F rfl inT1 (by decide) (by decide) rfl rfl tb_124 dX7_count_83)
  (zc_so (si_getI (k := 3) F rfl inT3 (by decide) (by decide) rfl rfl tb_109 dX7_count_86)
  (zc_so (si_rI F hQ hn hz hlocks hr (fun _ _ => rfl) dX7_count_89)
  (zc_so (si_aload_n F dX7_count_90 rfl)
  (zc_so (si_getR (k := 6) F rfl inT7 (by decide) (by decide) rfl rfl tb_222 dX7_count_91)
  (zc_so (si_getI (k := 3) F rfl inT5 (by decide) (by decide) rfl rfl tb_161 dX7_count_94)
  (zc_so (si_rI F hQ hn hz hlocks hr (fun _ _ => rfl) dX7_count_97)
  (zc_so (si_aload_n F dX7_count_98 rfl)
  (zc_so (si_getR (k := 8) F rfl inT7 (by decide) (by decide) rfl rfl tb_224 dX7_count_99)
  (zc_so (si_getI (k := 1) F rfl inT0 (by decide) (by decide) rfl rfl tb_180 dX7_count_102)
  (zc_so (si_rI F hQ hn hz hlocks hr (fun _ _ => rfl) dX7_count_105)
  (zc_so (si_bipush F dX7_count_106 rfl)
  (zc_so (si_rI F hQ hn hz hlocks hr (fun _ _ => rfl) dX7_count_108)
  (zc_nil))))))))))))))))))))))
theorem sd738 (F : zFx p l R s m args meth c D cid kv N0 xs Ls RX7 cX7_count 2 n0 z0 nF zE d) (IH : zAllM l D cid kv N0 xs Ls d) (hQ : ∀ v h, Qq v h → v = r0 ∧ h = hF) (hn : nF = zN hF) (hz : zE = zZ hF) (hlocks : meth.locks = false) (hr : meth.sig.returnType = (some .int)) (pc : Nat) : zSo p l e R s m args below meth c D cid kv N0 xs Ls 2 (MQ below (zQc D cid kv N0 xs Ls ρ0 r0 hF) args s (nF - n0) (zE - z0) (zA N0)) ρ0 n0 z0 nF zE Qq (zCall d) pc (zTab 738 pc) := zc_tab [zt738_0, zt738_1] (zc_cons (sd738_0 F IH hQ hn hz hlocks hr) (zc_cons (sd738_1 F IH hQ hn hz hlocks hr) zc_end))
theorem dX7_tape_0 : decode cX7_tape 0 = .ok (.iload_n 1, 1) := by decide +kernel
theorem dX7_tape_1 : decode cX7_tape 1 = .ok (.iconst 5, 1) := by decide +kernel
theorem dX7_tape_2 : decode cX7_tape 2 = .ok (.invokestatic 55, 3) := by decide +kernel
theorem dX7_tape_5 : decode cX7_tape 5 = .ok (.ifCond .ne 5, 3) := by decide +kernel
theorem dX7_tape_8 : decode cX7_tape 8 = .ok (.iconst (-1), 1) := by decide +kernel
theorem dX7_tape_9 : decode cX7_tape 9 = .ok (.ireturn, 1) := by decide +kernel
theorem dX7_tape_10 : decode cX7_tape 10 = .ok (.iload_n 2, 1) := by decide +kernel
theorem dX7_tape_11 : decode cX7_tape 11 = .ok (.iconst (-1), 1) := by decide +kernel
theorem dX7_tape_12 : decode cX7_tape 12 = .ok (.if_icmp .ne 16, 3) := by decide +kernel
theorem dX7_tape_15 : decode cX7_tape 15 = .ok (.aload_n 0, 1) := by decide +kernel
theorem dX7_tape_16 : decode cX7_tape 16 = .ok (.getfield 50, 3) := by decide +kernel
theorem dX7_tape_19 : decode cX7_tape 19 = .ok (.iload_n 1, 1) := by decide +kernel
theorem dX7_tape_20 : decode cX7_tape 20 = .ok (.aaload, 1) := by decide +kernel
theorem dX7_tape_21 : decode cX7_tape 21 = .ok (.iconst (-1), 1) := by decide +kernel
theorem dX7_tape_22 : decode cX7_tape 22 = .ok (.iconst 0, 1) := by decide +kernel
theorem dX7_tape_23 : decode cX7_tape 23 = .ok (.invokevirtual 267, 3) := by decide +kernel
theorem dX7_tape_26 : decode cX7_tape 26 = .ok (.iconst 1, 1) := by decide +kernel
theorem dX7_tape_27 : decode cX7_tape 27 = .ok (.ireturn, 1) := by decide +kernel
theorem dX7_tape_28 : decode cX7_tape 28 = .ok (.iload_n 2, 1) := by decide +kernel
theorem dX7_tape_29 : decode cX7_tape 29 = .ok (.iconst 4, 1) := by decide +kernel
theorem dX7_tape_30 : decode cX7_tape 30 = .ok (.invokestatic 55, 3) := by decide +kernel
theorem dX7_tape_33 : decode cX7_tape 33 = .ok (.ifCond .eq 9, 3) := by decide +kernel
theorem dX7_tape_36 : decode cX7_tape 36 = .ok (.iload_n 3, 1) := by decide +kernel
theorem dX7_tape_37 : decode cX7_tape 37 = .ok (.bipush 60, 2) := by decide +kernel
theorem dX7_tape_39 : decode cX7_tape 39 = .ok (.if_icmp .le 6, 3) := by decide +kernel
theorem dX7_tape_42 : decode cX7_tape 42 = .ok (.bipush (-2), 2) := by decide +kernel
theorem dX7_tape_44 : decode cX7_tape 44 = .ok (.ireturn, 1) := by decide +kernel
theorem dX7_tape_45 : decode cX7_tape 45 = .ok (.iload_n 3, 1) := by decide +kernel
theorem dX7_tape_46 : decode cX7_tape 46 = .ok (.ifCond .ge 6, 3) := by decide +kernel
theorem dX7_tape_49 : decode cX7_tape 49 = .ok (.bipush (-14), 2) := by decide +kernel
theorem dX7_tape_51 : decode cX7_tape 51 = .ok (.ireturn, 1) := by decide +kernel
theorem dX7_tape_52 : decode cX7_tape 52 = .ok (.aload_n 0, 1) := by decide +kernel
theorem dX7_tape_53 : decode cX7_tape 53 = .ok (.getfield 50, 3) := by decide +kernel
theorem dX7_tape_56 : decode cX7_tape 56 = .ok (.iload_n 1, 1) := by decide +kernel
theorem dX7_tape_57 : decode cX7_tape 57 = .ok (.aaload, 1) := by decide +kernel
theorem dX7_tape_58 : decode cX7_tape 58 = .ok (.iload_n 2, 1) := by decide +kernel
theorem dX7_tape_59 : decode cX7_tape 59 = .ok (.iload_n 3, 1) := by decide +kernel
theorem dX7_tape_60 : decode cX7_tape 60 = .ok (.invokevirtual 267, 3) := by decide +kernel
theorem dX7_tape_63 : decode cX7_tape 63 = .ok (.iconst 1, 1) := by decide +kernel
theorem dX7_tape_64 : decode cX7_tape 64 = .ok (.ireturn, 1) := by decide +kernel
theorem sd739_0 (F : zFx p l R s m args meth c D cid kv N0 xs Ls RX7 cX7_tape 4 n0 z0 nF zE d) (IH : zAllM l D cid kv N0 xs Ls d) (hQ : ∀ v h, Qq v h → v = r0 ∧ h = hF) (hn : nF = zN hF) (hz : zE = zZ hF) (hlocks : meth.locks = false) (hr : meth.sig.returnType = (some .int)) : zSoL p l e R s m args below meth c D cid kv N0 xs Ls 4 (MQ below (zQc D cid kv N0 xs Ls ρ0 r0 hF) args s (nF - n0) (zE - z0) (zA N0)) ρ0 n0 z0 nF zE Qq (zCall d) zt739_0 := zc_so (si_iload_n F dX7_tape_0 rfl)
  (zc_so (si_iconst F dX7_tape_1 rfl)
  (zc_so (si_cS  F (IH 744 mm744) mp744 (by decide) tb_251 mi744 mn744 mc744 dX7_tape_2)
  (zc_so (si_ifne F dX7_tape_5 rfl)
  (zc_so (si_iconst F dX7_tape_8 rfl)
  (zc_so (si_rI F hQ hn hz hlocks hr (fun _ _ => rfl) dX7_tape_9)
  (zc_so (si_iload_n F dX7_tape_10 rfl)
  (zc_so (si_iconst F dX7_tape_11 rfl)
  (zc_so (si_icne F dX7_tape_12 rfl)
  (zc_so (si_aload_n F dX7_tape_15 rfl)
  (zc_so (si_getR (k := 9) F rfl inT7 (by decide) (by decide) rfl rfl tb_225 dX7_tape_16)
  (zc_so (si_iload_n F dX7_tape_19 rfl)
  (zc_so (si_aaloadT F dX7_tape_20)
  (zc_so (si_iconst F dX7_tape_21 rfl)
  (zc_so (si_iconst F dX7_tape_22 rfl)
  (zc_so (si_cV F (IH 603 mm603) mp603 (by decide) rfl rfl (by decide) tb_666 mi603 ms603 mn603 mc603 dX7_tape_23)
  (zc_so (si_iconst F dX7_tape_26 rfl)
  (zc_so (si_rI F hQ hn hz hlocks hr (fun _ _ => rfl) dX7_tape_27)
  (zc_so (si_iload_n F dX7_tape_28 rfl)
  (zc_so (si_iconst F dX7_tape_29 rfl)
  (zc_so (si_cS  F (IH 744 mm744) mp744 (by decide) tb_251 mi744 mn744 mc744 dX7_tape_30)
  (zc_so (si_ifeq F dX7_tape_33 rfl)
  (zc_so (si_iload_n F dX7_tape_36 rfl)
  (zc_so (si_bipush F dX7_tape_37 rfl)
  (zc_so (si_icle F dX7_tape_39 rfl)
  (zc_so (si_bipush F dX7_tape_42 rfl)
  (zc_so (si_rI F hQ hn hz hlocks hr (fun _ _ => rfl) dX7_tape_44)
  (zc_so (si_iload_n F dX7_tape_45 rfl)
  (zc_so (si_ifge F dX7_tape_46 rfl)
  (zc_so (si_bipush F dX7_tape_49 rfl)
  (zc_so (si_rI F hQ hn hz hlocks hr (fun _ _ => rfl) dX7_tape_51)
  (zc_so (si_aload_n F dX7_tape_52 rfl)
  (zc_so (si_getR (k := 9) F rfl inT7 (by decide) (by decide) rfl rfl tb_225 dX7_tape_53)
  (zc_so (si_iload_n F dX7_tape_56 rfl)
  (zc_so (si_aaloadT F dX7_tape_57)
  (zc_so (si_iload_n F dX7_tape_58 rfl)
  (zc_so (si_iload_n F dX7_tape_59 rfl)
  (zc_so (si_cV F (IH 603 mm603) mp603 (by decide) rfl rfl (by decide) tb_666 mi603 ms603 mn603 mc603 dX7_tape_60)
  (zc_so (si_iconst F dX7_tape_63 rfl)
  (zc_nil)))))))))))))))))))))))))))))))))))))))
theorem sd739_1 (F : zFx p l R s m args meth c D cid kv N0 xs Ls RX7 cX7_tape 4 n0 z0 nF zE d) (IH : zAllM l D cid kv N0 xs Ls d) (hQ : ∀ v h, Qq v h → v = r0 ∧ h = hF) (hn : nF = zN hF) (hz : zE = zZ hF) (hlocks : meth.locks = false) (hr : meth.sig.returnType = (some .int)) : zSoL p l e R s m args below meth c D cid kv N0 xs Ls 4 (MQ below (zQc D cid kv N0 xs Ls ρ0 r0 hF) args s (nF - n0) (zE - z0) (zA N0)) ρ0 n0 z0 nF zE Qq (zCall d) zt739_1 := zc_so (si_rI F hQ hn hz hlocks hr (fun _ _ => rfl) dX7_tape_64)
  (zc_nil)
theorem sd739 (F : zFx p l R s m args meth c D cid kv N0 xs Ls RX7 cX7_tape 4 n0 z0 nF zE d) (IH : zAllM l D cid kv N0 xs Ls d) (hQ : ∀ v h, Qq v h → v = r0 ∧ h = hF) (hn : nF = zN hF) (hz : zE = zZ hF) (hlocks : meth.locks = false) (hr : meth.sig.returnType = (some .int)) (pc : Nat) : zSo p l e R s m args below meth c D cid kv N0 xs Ls 4 (MQ below (zQc D cid kv N0 xs Ls ρ0 r0 hF) args s (nF - n0) (zE - z0) (zA N0)) ρ0 n0 z0 nF zE Qq (zCall d) pc (zTab 739 pc) := zc_tab [zt739_0, zt739_1] (zc_cons (sd739_0 F IH hQ hn hz hlocks hr) (zc_cons (sd739_1 F IH hQ hn hz hlocks hr) zc_end))
theorem dX7_item_0 : decode cX7_item 0 = .ok (.iload_n 1, 1) := by decide +kernel
theorem dX7_item_1 : decode cX7_item 1 = .ok (.iconst 5, 1) := by decide +kernel
theorem dX7_item_2 : decode cX7_item 2 = .ok (.invokestatic 55, 3) := by decide +kernel
theorem dX7_item_5 : decode cX7_item 5 = .ok (.ifCond .ne 5, 3) := by decide +kernel
theorem dX7_item_8 : decode cX7_item 8 = .ok (.iconst (-1), 1) := by decide +kernel
theorem dX7_item_9 : decode cX7_item 9 = .ok (.ireturn, 1) := by decide +kernel
theorem dX7_item_10 : decode cX7_item 10 = .ok (.aload_n 0, 1) := by decide +kernel
theorem dX7_item_11 : decode cX7_item 11 = .ok (.getfield 50, 3) := by decide +kernel
theorem dX7_item_14 : decode cX7_item 14 = .ok (.iload_n 1, 1) := by decide +kernel
theorem dX7_item_15 : decode cX7_item 15 = .ok (.aaload, 1) := by decide +kernel
theorem dX7_item_16 : decode cX7_item 16 = .ok (.astore 5, 2) := by decide +kernel
theorem dX7_item_18 : decode cX7_item 18 = .ok (.aload 5, 2) := by decide +kernel
theorem dX7_item_20 : decode cX7_item 20 = .ok (.invokevirtual 227, 3) := by decide +kernel
theorem dX7_item_23 : decode cX7_item 23 = .ok (.ifCond .eq 6, 3) := by decide +kernel
theorem dX7_item_26 : decode cX7_item 26 = .ok (.bipush (-11), 2) := by decide +kernel
theorem dX7_item_28 : decode cX7_item 28 = .ok (.ireturn, 1) := by decide +kernel
theorem dX7_item_29 : decode cX7_item 29 = .ok (.iload_n 2, 1) := by decide +kernel
theorem dX7_item_30 : decode cX7_item 30 = .ok (.aload 5, 2) := by decide +kernel
theorem dX7_item_32 : decode cX7_item 32 = .ok (.getfield 233, 3) := by decide +kernel
theorem dX7_item_35 : decode cX7_item 35 = .ok (.iconst 1, 1) := by decide +kernel
theorem dX7_item_36 : decode cX7_item 36 = .ok (.isub, 1) := by decide +kernel
theorem dX7_item_37 : decode cX7_item 37 = .ok (.invokestatic 55, 3) := by decide +kernel
theorem dX7_item_40 : decode cX7_item 40 = .ok (.ifCond .ne 6, 3) := by decide +kernel
theorem dX7_item_43 : decode cX7_item 43 = .ok (.bipush (-13), 2) := by decide +kernel
theorem dX7_item_45 : decode cX7_item 45 = .ok (.ireturn, 1) := by decide +kernel
theorem dX7_item_46 : decode cX7_item 46 = .ok (.aload 5, 2) := by decide +kernel
theorem dX7_item_48 : decode cX7_item 48 = .ok (.getfield 236, 3) := by decide +kernel
theorem dX7_item_51 : decode cX7_item 51 = .ok (.iload_n 2, 1) := by decide +kernel
theorem dX7_item_52 : decode cX7_item 52 = .ok (.aload 5, 2) := by decide +kernel
theorem dX7_item_54 : decode cX7_item 54 = .ok (.lload_n 3, 1) := by decide +kernel
theorem dX7_item_55 : decode cX7_item 55 = .ok (.invokevirtual 270, 3) := by decide +kernel
theorem dX7_item_58 : decode cX7_item 58 = .ok (.lastore, 1) := by decide +kernel
theorem dX7_item_59 : decode cX7_item 59 = .ok (.iconst 1, 1) := by decide +kernel
theorem dX7_item_60 : decode cX7_item 60 = .ok (.ireturn, 1) := by decide +kernel
theorem sd740_0 (F : zFx p l R s m args meth c D cid kv N0 xs Ls RX7 cX7_item 6 n0 z0 nF zE d) (IH : zAllM l D cid kv N0 xs Ls d) (hQ : ∀ v h, Qq v h → v = r0 ∧ h = hF) (hn : nF = zN hF) (hz : zE = zZ hF) (hlocks : meth.locks = false) (hr : meth.sig.returnType = (some .int)) : zSoL p l e R s m args below meth c D cid kv N0 xs Ls 6 (MQ below (zQc D cid kv N0 xs Ls ρ0 r0 hF) args s (nF - n0) (zE - z0) (zA N0)) ρ0 n0 z0 nF zE Qq (zCall d) zt740_0 := zc_so (si_iload_n F dX7_item_0 rfl)
  (zc_so (si_iconst F dX7_item_1 rfl)
  (zc_so (si_cS  F (IH 744 mm744) mp744 (by decide) tb_251 mi744 mn744 mc744 dX7_item_2)
  (zc_so (si_ifne F dX7_item_5 rfl)
  (zc_so (si_iconst F dX7_item_8 rfl)
  (zc_so (si_rI F hQ hn hz hlocks hr (fun _ _ => rfl) dX7_item_9)
  (zc_so (si_aload_n F dX7_item_10 rfl)
  (zc_so (si_getR (k := 9) F rfl inT7 (by decide) (by decide) rfl rfl tb_225 dX7_item_11)
  (zc_so (si_iload_n F dX7_item_14 rfl)
  (zc_so (si_aaloadT F dX7_item_15)
  (zc_so (si_astore F dX7_item_16)
  (zc_so (si_aload F dX7_item_18)
  (zc_so (si_cV F (IH 602 mm602) mp602 (by decide) rfl rfl (by decide) tb_588 mi602 ms602 mn602 mc602 dX7_item_20)
  (zc_so (si_ifeq F dX7_item_23 rfl)
  (zc_so (si_bipush F dX7_item_26 rfl)
  (zc_so (si_rI F hQ hn hz hlocks hr (fun _ _ => rfl) dX7_item_28)
  (zc_so (si_iload_n F dX7_item_29 rfl)
  (zc_so (si_aload F dX7_item_30)
  (zc_so (si_getI (k := 1) F rfl inT6 (by decide) (by decide) rfl rfl tb_205 dX7_item_32)
  (zc_so (si_iconst F dX7_item_35 rfl)
  (zc_so (si_isub F dX7_item_36)
  (zc_so (si_cS  F (IH 744 mm744) mp744 (by decide) tb_251 mi744 mn744 mc744 dX7_item_37)
  (zc_so (si_ifne F dX7_item_40 rfl)
  (zc_so (si_bipush F dX7_item_43 rfl)
  (zc_so (si_rI F hQ hn hz hlocks hr (fun _ _ => rfl) dX7_item_45)
  (zc_so (si_aload F dX7_item_46)
  (zc_so (si_getR (k := 2) F rfl inT6 (by decide) (by decide) rfl rfl tb_207 dX7_item_48)
  (zc_so (si_iload_n F dX7_item_51 rfl)
  (zc_so (si_aload F dX7_item_52)
  (zc_so (si_lload_n F dX7_item_54 rfl)
  (zc_so (si_cV F (IH 604 mm604) mp604 (by decide) rfl rfl (by decide) tb_676 mi604 ms604 mn604 mc604 dX7_item_55)
  (zc_so (si_lastore F dX7_item_58)
  (zc_so (si_iconst F dX7_item_59 rfl)
  (zc_so (si_rI F hQ hn hz hlocks hr (fun _ _ => rfl) dX7_item_60)
  (zc_nil))))))))))))))))))))))))))))))))))
theorem sd740 (F : zFx p l R s m args meth c D cid kv N0 xs Ls RX7 cX7_item 6 n0 z0 nF zE d) (IH : zAllM l D cid kv N0 xs Ls d) (hQ : ∀ v h, Qq v h → v = r0 ∧ h = hF) (hn : nF = zN hF) (hz : zE = zZ hF) (hlocks : meth.locks = false) (hr : meth.sig.returnType = (some .int)) (pc : Nat) : zSo p l e R s m args below meth c D cid kv N0 xs Ls 6 (MQ below (zQc D cid kv N0 xs Ls ρ0 r0 hF) args s (nF - n0) (zE - z0) (zA N0)) ρ0 n0 z0 nF zE Qq (zCall d) pc (zTab 740 pc) := zc_tab [zt740_0] (zc_cons (sd740_0 F IH hQ hn hz hlocks hr) zc_end)
theorem dX7_read_0 : decode cX7_read 0 = .ok (.iload_n 1, 1) := by decide +kernel
theorem dX7_read_1 : decode cX7_read 1 = .ok (.iconst 5, 1) := by decide +kernel
theorem dX7_read_2 : decode cX7_read 2 = .ok (.invokestatic 55, 3) := by decide +kernel
theorem dX7_read_5 : decode cX7_read 5 = .ok (.ifCond .eq 21, 3) := by decide +kernel
theorem dX7_read_8 : decode cX7_read 8 = .ok (.iload_n 2, 1) := by decide +kernel
theorem dX7_read_9 : decode cX7_read 9 = .ok (.aload_n 0, 1) := by decide +kernel
theorem dX7_read_10 : decode cX7_read 10 = .ok (.getfield 50, 3) := by decide +kernel
theorem dX7_read_13 : decode cX7_read 13 = .ok (.iload_n 1, 1) := by decide +kernel
theorem dX7_read_14 : decode cX7_read 14 = .ok (.aaload, 1) := by decide +kernel
theorem dX7_read_15 : decode cX7_read 15 = .ok (.getfield 233, 3) := by decide +kernel
theorem dX7_read_18 : decode cX7_read 18 = .ok (.iconst 1, 1) := by decide +kernel
theorem dX7_read_19 : decode cX7_read 19 = .ok (.isub, 1) := by decide +kernel
theorem dX7_read_20 : decode cX7_read 20 = .ok (.invokestatic 55, 3) := by decide +kernel
theorem dX7_read_23 : decode cX7_read 23 = .ok (.ifCond .ne 7, 3) := by decide +kernel
theorem dX7_read_26 : decode cX7_read 26 = .ok (.ldc2_w 199, 3) := by decide +kernel
theorem dX7_read_29 : decode cX7_read 29 = .ok (.lreturn, 1) := by decide +kernel
theorem dX7_read_30 : decode cX7_read 30 = .ok (.aload_n 0, 1) := by decide +kernel
theorem dX7_read_31 : decode cX7_read 31 = .ok (.getfield 50, 3) := by decide +kernel
theorem dX7_read_34 : decode cX7_read 34 = .ok (.iload_n 1, 1) := by decide +kernel
theorem dX7_read_35 : decode cX7_read 35 = .ok (.aaload, 1) := by decide +kernel
theorem dX7_read_36 : decode cX7_read 36 = .ok (.getfield 236, 3) := by decide +kernel
theorem dX7_read_39 : decode cX7_read 39 = .ok (.iload_n 2, 1) := by decide +kernel
theorem dX7_read_40 : decode cX7_read 40 = .ok (.laload, 1) := by decide +kernel
theorem dX7_read_41 : decode cX7_read 41 = .ok (.lreturn, 1) := by decide +kernel
theorem sd741_0 (F : zFx p l R s m args meth c D cid kv N0 xs Ls RX7 cX7_read 3 n0 z0 nF zE d) (IH : zAllM l D cid kv N0 xs Ls d) (hQ : ∀ v h, Qq v h → v = r0 ∧ h = hF) (hn : nF = zN hF) (hz : zE = zZ hF) (hlocks : meth.locks = false) (hr : meth.sig.returnType = (some .long)) : zSoL p l e R s m args below meth c D cid kv N0 xs Ls 3 (MQ below (zQc D cid kv N0 xs Ls ρ0 r0 hF) args s (nF - n0) (zE - z0) (zA N0)) ρ0 n0 z0 nF zE Qq (zCall d) zt741_0 := zc_so (si_iload_n F dX7_read_0 rfl)
  (zc_so (si_iconst F dX7_read_1 rfl)
  (zc_so (si_cS  F (IH 744 mm744) mp744 (by decide) tb_251 mi744 mn744 mc744 dX7_read_2)
  (zc_so (si_ifeq F dX7_read_5 rfl)
  (zc_so (si_iload_n F dX7_read_8 rfl)
  (zc_so (si_aload_n F dX7_read_9 rfl)
  (zc_so (si_getR (k := 9) F rfl inT7 (by decide) (by decide) rfl rfl tb_225 dX7_read_10)
  (zc_so (si_iload_n F dX7_read_13 rfl)
  (zc_so (si_aaloadT F dX7_read_14)
  (zc_so (si_getI (k := 1) F rfl inT6 (by decide) (by decide) rfl rfl tb_205 dX7_read_15)
  (zc_so (si_iconst F dX7_read_18 rfl)
  (zc_so (si_isub F dX7_read_19)
  (zc_so (si_cS  F (IH 744 mm744) mp744 (by decide) tb_251 mi744 mn744 mc744 dX7_read_20)
  (zc_so (si_ifne F dX7_read_23 rfl)
  (zc_so (si_ldc2_w F dX7_read_26 tb_554)
  (zc_so (si_rJ F hQ hn hz hlocks hr dX7_read_29)
  (zc_so (si_aload_n F dX7_read_30 rfl)
  (zc_so (si_getR (k := 9) F rfl inT7 (by decide) (by decide) rfl rfl tb_225 dX7_read_31)
  (zc_so (si_iload_n F dX7_read_34 rfl)
  (zc_so (si_aaloadT F dX7_read_35)
  (zc_so (si_getR (k := 2) F rfl inT6 (by decide) (by decide) rfl rfl tb_207 dX7_read_36)
  (zc_so (si_iload_n F dX7_read_39 rfl)
  (zc_so (si_laload F dX7_read_40)
  (zc_so (si_rJ F hQ hn hz hlocks hr dX7_read_41)
  (zc_nil))))))))))))))))))))))))
theorem sd741 (F : zFx p l R s m args meth c D cid kv N0 xs Ls RX7 cX7_read 3 n0 z0 nF zE d) (IH : zAllM l D cid kv N0 xs Ls d) (hQ : ∀ v h, Qq v h → v = r0 ∧ h = hF) (hn : nF = zN hF) (hz : zE = zZ hF) (hlocks : meth.locks = false) (hr : meth.sig.returnType = (some .long)) (pc : Nat) : zSo p l e R s m args below meth c D cid kv N0 xs Ls 3 (MQ below (zQc D cid kv N0 xs Ls ρ0 r0 hF) args s (nF - n0) (zE - z0) (zA N0)) ρ0 n0 z0 nF zE Qq (zCall d) pc (zTab 741 pc) := zc_tab [zt741_0] (zc_cons (sd741_0 F IH hQ hn hz hlocks hr) zc_end)
theorem dX7_shift_0 : decode cX7_shift 0 = .ok (.iload_n 1, 1) := by decide +kernel
theorem dX7_shift_1 : decode cX7_shift 1 = .ok (.iconst 5, 1) := by decide +kernel
theorem dX7_shift_2 : decode cX7_shift 2 = .ok (.invokestatic 55, 3) := by decide +kernel
theorem dX7_shift_5 : decode cX7_shift 5 = .ok (.ifCond .eq 11, 3) := by decide +kernel
theorem dX7_shift_8 : decode cX7_shift 8 = .ok (.iload_n 3, 1) := by decide +kernel
theorem dX7_shift_9 : decode cX7_shift 9 = .ok (.iconst 5, 1) := by decide +kernel
theorem dX7_shift_10 : decode cX7_shift 10 = .ok (.invokestatic 55, 3) := by decide +kernel
theorem dX7_shift_13 : decode cX7_shift 13 = .ok (.ifCond .ne 5, 3) := by decide +kernel
theorem dX7_shift_16 : decode cX7_shift 16 = .ok (.iconst (-1), 1) := by decide +kernel
theorem dX7_shift_17 : decode cX7_shift 17 = .ok (.ireturn, 1) := by decide +kernel
theorem dX7_shift_18 : decode cX7_shift 18 = .ok (.aload_n 0, 1) := by decide +kernel
theorem dX7_shift_19 : decode cX7_shift 19 = .ok (.getfield 50, 3) := by decide +kernel
theorem dX7_shift_22 : decode cX7_shift 22 = .ok (.iload_n 1, 1) := by decide +kernel
theorem dX7_shift_23 : decode cX7_shift 23 = .ok (.aaload, 1) := by decide +kernel
theorem dX7_shift_24 : decode cX7_shift 24 = .ok (.astore 6, 2) := by decide +kernel
theorem dX7_shift_26 : decode cX7_shift 26 = .ok (.aload_n 0, 1) := by decide +kernel
theorem dX7_shift_27 : decode cX7_shift 27 = .ok (.getfield 50, 3) := by decide +kernel
theorem dX7_shift_30 : decode cX7_shift 30 = .ok (.iload_n 3, 1) := by decide +kernel
theorem dX7_shift_31 : decode cX7_shift 31 = .ok (.aaload, 1) := by decide +kernel
theorem dX7_shift_32 : decode cX7_shift 32 = .ok (.astore 7, 2) := by decide +kernel
theorem dX7_shift_34 : decode cX7_shift 34 = .ok (.aload 6, 2) := by decide +kernel
theorem dX7_shift_36 : decode cX7_shift 36 = .ok (.invokevirtual 227, 3) := by decide +kernel
theorem dX7_shift_39 : decode cX7_shift 39 = .ok (.ifCond .ne 11, 3) := by decide +kernel
theorem dX7_shift_42 : decode cX7_shift 42 = .ok (.aload 7, 2) := by decide +kernel
theorem dX7_shift_44 : decode cX7_shift 44 = .ok (.invokevirtual 227, 3) := by decide +kernel
theorem dX7_shift_47 : decode cX7_shift 47 = .ok (.ifCond .eq 6, 3) := by decide +kernel
theorem dX7_shift_50 : decode cX7_shift 50 = .ok (.bipush (-11), 2) := by decide +kernel
theorem dX7_shift_52 : decode cX7_shift 52 = .ok (.ireturn, 1) := by decide +kernel
theorem dX7_shift_53 : decode cX7_shift 53 = .ok (.aload 6, 2) := by decide +kernel
theorem dX7_shift_55 : decode cX7_shift 55 = .ok (.getfield 230, 3) := by decide +kernel
theorem dX7_shift_58 : decode cX7_shift 58 = .ok (.aload 7, 2) := by decide +kernel
theorem dX7_shift_60 : decode cX7_shift 60 = .ok (.getfield 230, 3) := by decide +kernel
theorem dX7_shift_63 : decode cX7_shift 63 = .ok (.if_icmp .eq 6, 3) := by decide +kernel
theorem dX7_shift_66 : decode cX7_shift 66 = .ok (.bipush (-12), 2) := by decide +kernel
theorem dX7_shift_68 : decode cX7_shift 68 = .ok (.ireturn, 1) := by decide +kernel
theorem dX7_shift_69 : decode cX7_shift 69 = .ok (.aload 6, 2) := by decide +kernel
theorem dX7_shift_71 : decode cX7_shift 71 = .ok (.iload_n 2, 1) := by decide +kernel
theorem dX7_shift_72 : decode cX7_shift 72 = .ok (.iload 5, 2) := by decide +kernel
theorem dX7_shift_74 : decode cX7_shift 74 = .ok (.invokevirtual 274, 3) := by decide +kernel
theorem dX7_shift_77 : decode cX7_shift 77 = .ok (.ifCond .eq 15, 3) := by decide +kernel
theorem dX7_shift_80 : decode cX7_shift 80 = .ok (.aload 7, 2) := by decide +kernel
theorem dX7_shift_82 : decode cX7_shift 82 = .ok (.iload 4, 2) := by decide +kernel
theorem dX7_shift_84 : decode cX7_shift 84 = .ok (.iload 5, 2) := by decide +kernel
theorem dX7_shift_86 : decode cX7_shift 86 = .ok (.invokevirtual 274, 3) := by decide +kernel
theorem dX7_shift_89 : decode cX7_shift 89 = .ok (.ifCond .ne 6, 3) := by decide +kernel
theorem dX7_shift_92 : decode cX7_shift 92 = .ok (.bipush (-13), 2) := by decide +kernel
theorem dX7_shift_94 : decode cX7_shift 94 = .ok (.ireturn, 1) := by decide +kernel
theorem dX7_shift_95 : decode cX7_shift 95 = .ok (.aload 6, 2) := by decide +kernel
theorem dX7_shift_97 : decode cX7_shift 97 = .ok (.getfield 236, 3) := by decide +kernel
theorem dX7_shift_100 : decode cX7_shift 100 = .ok (.iload_n 2, 1) := by decide +kernel
theorem dX7_shift_101 : decode cX7_shift 101 = .ok (.aload 7, 2) := by decide +kernel
theorem dX7_shift_103 : decode cX7_shift 103 = .ok (.getfield 236, 3) := by decide +kernel
theorem dX7_shift_106 : decode cX7_shift 106 = .ok (.iload 4, 2) := by decide +kernel
theorem dX7_shift_108 : decode cX7_shift 108 = .ok (.iload 5, 2) := by decide +kernel
theorem dX7_shift_110 : decode cX7_shift 110 = .ok (.invokestatic 277, 3) := by decide +kernel
theorem dX7_shift_113 : decode cX7_shift 113 = .ok (.iload 5, 2) := by decide +kernel
theorem dX7_shift_115 : decode cX7_shift 115 = .ok (.ireturn, 1) := by decide +kernel
theorem sd742_0 (F : zFx p l R s m args meth c D cid kv N0 xs Ls RX7 cX7_shift 8 n0 z0 nF zE d) (IH : zAllM l D cid kv N0 xs Ls d) (hQ : ∀ v h, Qq v h → v = r0 ∧ h = hF) (hn : nF = zN hF) (hz : zE = zZ hF) (hlocks : meth.locks = false) (hr : meth.sig.returnType = (some .int)) : zSoL p l e R s m args below meth c D cid kv N0 xs Ls 8 (MQ below (zQc D cid kv N0 xs Ls ρ0 r0 hF) args s (nF - n0) (zE - z0) (zA N0)) ρ0 n0 z0 nF zE Qq (zCall d) zt742_0 := zc_so (si_iload_n F dX7_shift_0 rfl)
  (zc_so (si_iconst F dX7_shift_1 rfl)
  (zc_so (si_cS  F (IH 744 mm744) mp744 (by decide) tb_251 mi744 mn744 mc744 dX7_shift_2)
  (zc_so (si_ifeq F dX7_shift_5 rfl)
  (zc_so (si_iload_n F dX7_shift_8 rfl)
  (zc_so (si_iconst F dX7_shift_9 rfl)
  (zc_so (si_cS  F (IH 744 mm744) mp744 (by decide) tb_251 mi744 mn744 mc744 dX7_shift_10)
  (zc_so (si_ifne F dX7_shift_13 rfl)
  (zc_so (si_iconst F dX7_shift_16 rfl)
  (zc_so (si_rI F hQ hn hz hlocks hr (fun _ _ => rfl) dX7_shift_17)
  (zc_so (si_aload_n F dX7_shift_18 rfl)
  (zc_so (si_getR (k := 9) F rfl inT7 (by decide) (by decide) rfl rfl tb_225 dX7_shift_19)
  (zc_so (si_iload_n F dX7_shift_22 rfl)
  (zc_so (si_aaloadT F dX7_shift_23)
  (zc_so (si_astore F dX7_shift_24)
  (zc_so (si_aload_n F dX7_shift_26 rfl)
  (zc_so (si_getR (k := 9) F rfl inT7 (by decide) (by decide) rfl rfl tb_225 dX7_shift_27)
  (zc_so (si_iload_n F dX7_shift_30 rfl)
  (zc_so (si_aaloadT F dX7_shift_31)
  (zc_so (si_astore F dX7_shift_32)
  (zc_so (si_aload F dX7_shift_34)
  (zc_so (si_cV F (IH 602 mm602) mp602 (by decide) rfl rfl (by decide) tb_588 mi602 ms602 mn602 mc602 dX7_shift_36)
  (zc_so (si_ifne F dX7_shift_39 rfl)
  (zc_so (si_aload F dX7_shift_42)
  (zc_so (si_cV F (IH 602 mm602) mp602 (by decide) rfl rfl (by decide) tb_588 mi602 ms602 mn602 mc602 dX7_shift_44)
  (zc_so (si_ifeq F dX7_shift_47 rfl)
  (zc_so (si_bipush F dX7_shift_50 rfl)
  (zc_so (si_rI F hQ hn hz hlocks hr (fun _ _ => rfl) dX7_shift_52)
  (zc_so (si_aload F dX7_shift_53)
  (zc_so (si_getI (k := 0) F rfl inT6 (by decide) (by decide) rfl rfl tb_203 dX7_shift_55)
  (zc_so (si_aload F dX7_shift_58)
  (zc_so (si_getI (k := 0) F rfl inT6 (by decide) (by decide) rfl rfl tb_203 dX7_shift_60)
  (zc_so (si_iceq F dX7_shift_63 rfl)
  (zc_nil)))))))))))))))))))))))))))))))))
theorem sd742_1 (F : zFx p l R s m args meth c D cid kv N0 xs Ls RX7 cX7_shift 8 n0 z0 nF zE d) (IH : zAllM l D cid kv N0 xs Ls d) (hQ : ∀ v h, Qq v h → v = r0 ∧ h = hF) (hn : nF = zN hF) (hz : zE = zZ hF) (hlocks : meth.locks = false) (hr : meth.sig.returnType = (some .int)) : zSoL p l e R s m args below meth c D cid kv N0 xs Ls 8 (MQ below (zQc D cid kv N0 xs Ls ρ0 r0 hF) args s (nF - n0) (zE - z0) (zA N0)) ρ0 n0 z0 nF zE Qq (zCall d) zt742_1 := zc_so (si_bipush F dX7_shift_66 rfl)
  (zc_so (si_rI F hQ hn hz hlocks hr (fun _ _ => rfl) dX7_shift_68)
  (zc_so (si_aload F dX7_shift_69)
  (zc_so (si_iload_n F dX7_shift_71 rfl)
  (zc_so (si_iload F dX7_shift_72)
  (zc_so (si_cV F (IH 605 mm605) mp605 (by decide) rfl rfl (by decide) tb_688 mi605 ms605 mn605 mc605 dX7_shift_74)
  (zc_so (si_ifeq F dX7_shift_77 rfl)
  (zc_so (si_aload F dX7_shift_80)
  (zc_so (si_iload F dX7_shift_82)
  (zc_so (si_iload F dX7_shift_84)
  (zc_so (si_cV F (IH 605 mm605) mp605 (by decide) rfl rfl (by decide) tb_688 mi605 ms605 mn605 mc605 dX7_shift_86)
  (zc_so (si_ifne F dX7_shift_89 rfl)
  (zc_so (si_bipush F dX7_shift_92 rfl)
  (zc_so (si_rI F hQ hn hz hlocks hr (fun _ _ => rfl) dX7_shift_94)
  (zc_so (si_aload F dX7_shift_95)
  (zc_so (si_getR (k := 2) F rfl inT6 (by decide) (by decide) rfl rfl tb_207 dX7_shift_97)
  (zc_so (si_iload_n F dX7_shift_100 rfl)
  (zc_so (si_aload F dX7_shift_101)
  (zc_so (si_getR (k := 2) F rfl inT6 (by decide) (by decide) rfl rfl tb_207 dX7_shift_103)
  (zc_so (si_iload F dX7_shift_106)
  (zc_so (si_iload F dX7_shift_108)
  (zc_so (si_copy F tb_692 tb_694 tb_693 tb_16 dX7_shift_110)
  (zc_so (si_iload F dX7_shift_113)
  (zc_so (si_rI F hQ hn hz hlocks hr (fun _ _ => rfl) dX7_shift_115)
  (zc_nil))))))))))))))))))))))))
theorem sd742 (F : zFx p l R s m args meth c D cid kv N0 xs Ls RX7 cX7_shift 8 n0 z0 nF zE d) (IH : zAllM l D cid kv N0 xs Ls d) (hQ : ∀ v h, Qq v h → v = r0 ∧ h = hF) (hn : nF = zN hF) (hz : zE = zZ hF) (hlocks : meth.locks = false) (hr : meth.sig.returnType = (some .int)) (pc : Nat) : zSo p l e R s m args below meth c D cid kv N0 xs Ls 8 (MQ below (zQc D cid kv N0 xs Ls ρ0 r0 hF) args s (nF - n0) (zE - z0) (zA N0)) ρ0 n0 z0 nF zE Qq (zCall d) pc (zTab 742 pc) := zc_tab [zt742_0, zt742_1] (zc_cons (sd742_0 F IH hQ hn hz hlocks hr) (zc_cons (sd742_1 F IH hQ hn hz hlocks hr) zc_end))
theorem dX7_isThere_0 : decode cX7_isThere 0 = .ok (.iload_n 1, 1) := by decide +kernel
theorem dX7_isThere_1 : decode cX7_isThere 1 = .ok (.aload_n 0, 1) := by decide +kernel
theorem dX7_isThere_2 : decode cX7_isThere 2 = .ok (.getfield 12, 3) := by decide +kernel
theorem dX7_isThere_5 : decode cX7_isThere 5 = .ok (.getfield 169, 3) := by decide +kernel
theorem dX7_isThere_8 : decode cX7_isThere 8 = .ok (.iconst 1, 1) := by decide +kernel
theorem dX7_isThere_9 : decode cX7_isThere 9 = .ok (.isub, 1) := by decide +kernel
theorem dX7_isThere_10 : decode cX7_isThere 10 = .ok (.invokestatic 55, 3) := by decide +kernel
theorem dX7_isThere_13 : decode cX7_isThere 13 = .ok (.ireturn, 1) := by decide +kernel
theorem sd743_0 (F : zFx p l R s m args meth c D cid kv N0 xs Ls RX7 cX7_isThere 2 n0 z0 nF zE d) (IH : zAllM l D cid kv N0 xs Ls d) (hQ : ∀ v h, Qq v h → v = r0 ∧ h = hF) (hn : nF = zN hF) (hz : zE = zZ hF) (hlocks : meth.locks = false) (hr : meth.sig.returnType = (some .boolean)) : zSoL p l e R s m args below meth c D cid kv N0 xs Ls 2 (MQ below (zQc D cid kv N0 xs Ls ρ0 r0 hF) args s (nF - n0) (zE - z0) (zA N0)) ρ0 n0 z0 nF zE Qq (zCall d) zt743_0 := zc_so (si_iload_n F dX7_isThere_0 rfl)
  (zc_so (si_aload_n F dX7_isThere_1 rfl)
  (zc_so (si_getR (k := 0) F rfl inT7 (by decide) (by decide) rfl rfl tb_216 dX7_isThere_2)
  (zc_so (si_getI (k := 7) F rfl inT2 (by decide) (by decide) rfl rfl tb_48 dX7_isThere_5)
  (zc_so (si_iconst F dX7_isThere_8 rfl)
  (zc_so (si_isub F dX7_isThere_9)
  (zc_so (si_cS  F (IH 744 mm744) mp744 (by decide) tb_251 mi744 mn744 mc744 dX7_isThere_10)
  (zc_so (si_rI F hQ hn hz hlocks hr (fun x h => by rcases h with rfl | rfl <;> rfl) dX7_isThere_13)
  (zc_nil))))))))
theorem sd743 (F : zFx p l R s m args meth c D cid kv N0 xs Ls RX7 cX7_isThere 2 n0 z0 nF zE d) (IH : zAllM l D cid kv N0 xs Ls d) (hQ : ∀ v h, Qq v h → v = r0 ∧ h = hF) (hn : nF = zN hF) (hz : zE = zZ hF) (hlocks : meth.locks = false) (hr : meth.sig.returnType = (some .boolean)) (pc : Nat) : zSo p l e R s m args below meth c D cid kv N0 xs Ls 2 (MQ below (zQc D cid kv N0 xs Ls ρ0 r0 hF) args s (nF - n0) (zE - z0) (zA N0)) ρ0 n0 z0 nF zE Qq (zCall d) pc (zTab 743 pc) := zc_tab [zt743_0] (zc_cons (sd743_0 F IH hQ hn hz hlocks hr) zc_end)
theorem dX7_within_0 : decode cX7_within 0 = .ok (.iload_n 0, 1) := by decide +kernel
theorem dX7_within_1 : decode cX7_within 1 = .ok (.ifCond .lt 12, 3) := by decide +kernel
theorem dX7_within_4 : decode cX7_within 4 = .ok (.iload_n 0, 1) := by decide +kernel
theorem dX7_within_5 : decode cX7_within 5 = .ok (.iload_n 1, 1) := by decide +kernel
theorem dX7_within_6 : decode cX7_within 6 = .ok (.if_icmp .gt 7, 3) := by decide +kernel
theorem dX7_within_9 : decode cX7_within 9 = .ok (.iconst 1, 1) := by decide +kernel
theorem dX7_within_10 : decode cX7_within 10 = .ok (.goto 4, 3) := by decide +kernel
theorem dX7_within_13 : decode cX7_within 13 = .ok (.iconst 0, 1) := by decide +kernel
theorem dX7_within_14 : decode cX7_within 14 = .ok (.ireturn, 1) := by decide +kernel
theorem sd744_0 (F : zFx p l R s m args meth c D cid kv N0 xs Ls RX7 cX7_within 2 n0 z0 nF zE d) (IH : zAllM l D cid kv N0 xs Ls d) (hQ : ∀ v h, Qq v h → v = r0 ∧ h = hF) (hn : nF = zN hF) (hz : zE = zZ hF) (hlocks : meth.locks = false) (hr : meth.sig.returnType = (some .boolean)) : zSoL p l e R s m args below meth c D cid kv N0 xs Ls 2 (MQ below (zQc D cid kv N0 xs Ls ρ0 r0 hF) args s (nF - n0) (zE - z0) (zA N0)) ρ0 n0 z0 nF zE Qq (zCall d) zt744_0 := zc_so (si_iload_n F dX7_within_0 rfl)
  (zc_so (si_iflt F dX7_within_1 rfl)
  (zc_so (si_iload_n F dX7_within_4 rfl)
  (zc_so (si_iload_n F dX7_within_5 rfl)
  (zc_so (si_icgt F dX7_within_6 rfl)
  (zc_so (si_iconst F dX7_within_9 rfl)
  (zc_so (si_goto F dX7_within_10 rfl)
  (zc_so (si_iconst F dX7_within_13 rfl)
  (zc_so (si_rI F hQ hn hz hlocks hr (fun x h => by rcases h with rfl | rfl <;> rfl) dX7_within_14)
  (zc_nil)))))))))
theorem sd744 (F : zFx p l R s m args meth c D cid kv N0 xs Ls RX7 cX7_within 2 n0 z0 nF zE d) (IH : zAllM l D cid kv N0 xs Ls d) (hQ : ∀ v h, Qq v h → v = r0 ∧ h = hF) (hn : nF = zN hF) (hz : zE = zZ hF) (hlocks : meth.locks = false) (hr : meth.sig.returnType = (some .boolean)) (pc : Nat) : zSo p l e R s m args below meth c D cid kv N0 xs Ls 2 (MQ below (zQc D cid kv N0 xs Ls ρ0 r0 hF) args s (nF - n0) (zE - z0) (zA N0)) ρ0 n0 z0 nF zE Qq (zCall d) pc (zTab 744 pc) := zc_tab [zt744_0] (zc_cons (sd744_0 F IH hQ hn hz hlocks hr) zc_end)
