/-- our methods -/
def zIds : List Nat := [1, 2, 3, 4, 5, 6, 7, 8, 9, 101, 102, 103, 104, 201, 202, 203, 204, 205, 206, 207, 208, 209, 210, 211, 212, 213, 214, 215, 301, 302, 303, 304, 401, 402, 403, 404, 405, 501, 502, 503, 504, 505, 506, 507, 508, 509, 510, 511, 512, 513, 514, 601, 602, 603, 604, 605, 701, 702, 703, 704, 705, 706, 707, 708, 709, 710, 711, 712, 713, 714, 715, 716, 717, 718, 719, 720, 721, 722, 723, 724, 725, 726, 727, 728, 729, 730, 731, 732, 733, 734, 735, 736, 737, 738, 739, 740, 741, 742, 743, 744, 801, 802, 803, 804, 805, 806, 807, 808, 809, 810, 811, 812, 813, 814, 815, 816, 817, 818, 819, 820, 821, 822, 823, 824, 825, 826, 827, 828, 829, 830, 831, 832, 833, 834, 835, 836, 837, 838, 839, 840, 841, 842, 843, 844, 845, 846, 847, 848, 849, 850, 851, 852, 853, 854, 855, 856, 857, 858, 859, 860, 861, 862, 863, 864, 865, 866, 867, 868, 869, 870, 871, 872, 901, 1001, 1002, 1003, 1004, 1005, 1101, 1201]
/-! lists of sound instructions -/
def zAllM (l : Launch) (D : va_G) (cid : Nat → ClassId) (kv : Nat → Option Nat) (N0 : Nat) (xs : Nat → Int32) (Ls d : Nat) : Prop := ∀ y : Nat, y ∈ zIds → zMet l D cid kv N0 xs Ls d y (zNm y).1 (zNm y).2.1 (zNm y).2.2.1 (zNm y).2.2.2
section ZC
variable {p : Program} {l : Launch} {e : Env} {R : Room} {s : State} {m : MethodId} {args : Array Value} {below : List Frame} {meth : Method} {c : Code} {D : va_G} {cid : Nat → ClassId} {kv : Nat → Option Nat} {N0 : Nat} {xs : Nat → Int32} {Ls nL n0 z0 nF zE d : Nat} {ρ0 : List Nat} {Qq : zQq} {Ca : zCa} {Qf : State → Prop}
def zSoL (p : Program) (l : Launch) (e : Env) (R : Room) (s : State) (m : MethodId) (args : Array Value) (below : List Frame) (meth : Method) (c : Code) (D : va_G) (cid : Nat → ClassId) (kv : Nat → Option Nat) (N0 : Nat) (xs : Nat → Int32) (Ls nL : Nat) (Qf : State → Prop) (ρ0 : List Nat) (n0 z0 nF zE : Nat) (Qq : zQq) (Ca : zCa) : List (Nat × zOp) → Prop
  | [] => True
  | q :: t => zSo p l e R s m args below meth c D cid kv N0 xs Ls nL Qf ρ0 n0 z0 nF zE Qq Ca q.1 q.2 ∧ zSoL p l e R s m args below meth c D cid kv N0 xs Ls nL Qf ρ0 n0 z0 nF zE Qq Ca t
theorem zc_nil : zSoL p l e R s m args below meth c D cid kv N0 xs Ls nL Qf ρ0 n0 z0 nF zE Qq Ca [] := trivial
theorem zc_so {pc : Nat} {op : zOp} {t : List (Nat × zOp)} (h : zSo p l e R s m args below meth c D cid kv N0 xs Ls nL Qf ρ0 n0 z0 nF zE Qq Ca pc op) (ht : zSoL p l e R s m args below meth c D cid kv N0 xs Ls nL Qf ρ0 n0 z0 nF zE Qq Ca t) : zSoL p l e R s m args below meth c D cid kv N0 xs Ls nL Qf ρ0 n0 z0 nF zE Qq Ca ((pc, op) :: t) := ⟨h, ht⟩
theorem zc_lk : ∀ {t : List (Nat × zOp)}, zSoL p l e R s m args below meth c D cid kv N0 xs Ls nL Qf ρ0 n0 z0 nF zE Qq Ca t → ∀ n, zSo p l e R s m args below meth c D cid kv N0 xs Ls nL Qf ρ0 n0 z0 nF zE Qq Ca n (zlk t n)
  | [], _, _ => so_F
  | (k, o) :: t, h, n => by
    unfold zlk
    cases e : Nat.beq k n with
    | true =>
      have := Nat.eq_of_beq_eq_true e
      subst this
      exact h.1
    | false => exact zc_lk h.2 n
def zSoLL (p : Program) (l : Launch) (e : Env) (R : Room) (s : State) (m : MethodId) (args : Array Value) (below : List Frame) (meth : Method) (c : Code) (D : va_G) (cid : Nat → ClassId) (kv : Nat → Option Nat) (N0 : Nat) (xs : Nat → Int32) (Ls nL : Nat) (Qf : State → Prop) (ρ0 : List Nat) (n0 z0 nF zE : Nat) (Qq : zQq) (Ca : zCa) : List (List (Nat × zOp)) → Prop
  | [] => True
  | q :: t => zSoL p l e R s m args below meth c D cid kv N0 xs Ls nL Qf ρ0 n0 z0 nF zE Qq Ca q ∧ zSoLL p l e R s m args below meth c D cid kv N0 xs Ls nL Qf ρ0 n0 z0 nF zE Qq Ca t
theorem zc_end : zSoLL p l e R s m args below meth c D cid kv N0 xs Ls nL Qf ρ0 n0 z0 nF zE Qq Ca [] := trivial
theorem zc_cons {q : List (Nat × zOp)} {t : List (List (Nat × zOp))} (h : zSoL p l e R s m args below meth c D cid kv N0 xs Ls nL Qf ρ0 n0 z0 nF zE Qq Ca q) (ht : zSoLL p l e R s m args below meth c D cid kv N0 xs Ls nL Qf ρ0 n0 z0 nF zE Qq Ca t) : zSoLL p l e R s m args below meth c D cid kv N0 xs Ls nL Qf ρ0 n0 z0 nF zE Qq Ca (q :: t) := ⟨h, ht⟩
theorem zc_get : ∀ {t : List (List (Nat × zOp))}, zSoLL p l e R s m args below meth c D cid kv N0 xs Ls nL Qf ρ0 n0 z0 nF zE Qq Ca t → ∀ k, zSoL p l e R s m args below meth c D cid kv N0 xs Ls nL Qf ρ0 n0 z0 nF zE Qq Ca (t.getD k [])
  | [], _, k => by simp [zSoL]
  | _ :: _, h, 0 => h.1
  | _ :: t, h, k + 1 => by
    have := zc_get h.2 k
    simpa using this
theorem zc_tab (t : List (List (Nat × zOp))) (h : zSoLL p l e R s m args below meth c D cid kv N0 xs Ls nL Qf ρ0 n0 z0 nF zE Qq Ca t) {n : Nat} : zSo p l e R s m args below meth c D cid kv N0 xs Ls nL Qf ρ0 n0 z0 nF zE Qq Ca n (zlk2 t n) := zc_lk (zc_get h (n / 64)) n
end ZC
theorem mm1 : 1 ∈ zIds := List.mem_of_getElem? (i := 0) rfl
theorem mm2 : 2 ∈ zIds := List.mem_of_getElem? (i := 1) rfl
theorem mm3 : 3 ∈ zIds := List.mem_of_getElem? (i := 2) rfl
theorem mm4 : 4 ∈ zIds := List.mem_of_getElem? (i := 3) rfl
theorem mm5 : 5 ∈ zIds := List.mem_of_getElem? (i := 4) rfl
theorem mm6 : 6 ∈ zIds := List.mem_of_getElem? (i := 5) rfl
theorem mm7 : 7 ∈ zIds := List.mem_of_getElem? (i := 6) rfl
theorem mm8 : 8 ∈ zIds := List.mem_of_getElem? (i := 7) rfl
theorem mm9 : 9 ∈ zIds := List.mem_of_getElem? (i := 8) rfl
theorem mm101 : 101 ∈ zIds := List.mem_of_getElem? (i := 9) rfl
theorem mm102 : 102 ∈ zIds := List.mem_of_getElem? (i := 10) rfl
theorem mm103 : 103 ∈ zIds := List.mem_of_getElem? (i := 11) rfl
theorem mm104 : 104 ∈ zIds := List.mem_of_getElem? (i := 12) rfl
theorem mm201 : 201 ∈ zIds := List.mem_of_getElem? (i := 13) rfl
theorem mm202 : 202 ∈ zIds := List.mem_of_getElem? (i := 14) rfl
theorem mm203 : 203 ∈ zIds := List.mem_of_getElem? (i := 15) rfl
theorem mm204 : 204 ∈ zIds := List.mem_of_getElem? (i := 16) rfl
theorem mm205 : 205 ∈ zIds := List.mem_of_getElem? (i := 17) rfl
theorem mm206 : 206 ∈ zIds := List.mem_of_getElem? (i := 18) rfl
theorem mm207 : 207 ∈ zIds := List.mem_of_getElem? (i := 19) rfl
theorem mm208 : 208 ∈ zIds := List.mem_of_getElem? (i := 20) rfl
theorem mm209 : 209 ∈ zIds := List.mem_of_getElem? (i := 21) rfl
theorem mm210 : 210 ∈ zIds := List.mem_of_getElem? (i := 22) rfl
theorem mm211 : 211 ∈ zIds := List.mem_of_getElem? (i := 23) rfl
theorem mm212 : 212 ∈ zIds := List.mem_of_getElem? (i := 24) rfl
theorem mm213 : 213 ∈ zIds := List.mem_of_getElem? (i := 25) rfl
theorem mm214 : 214 ∈ zIds := List.mem_of_getElem? (i := 26) rfl
theorem mm215 : 215 ∈ zIds := List.mem_of_getElem? (i := 27) rfl
theorem mm301 : 301 ∈ zIds := List.mem_of_getElem? (i := 28) rfl
theorem mm302 : 302 ∈ zIds := List.mem_of_getElem? (i := 29) rfl
theorem mm303 : 303 ∈ zIds := List.mem_of_getElem? (i := 30) rfl
theorem mm304 : 304 ∈ zIds := List.mem_of_getElem? (i := 31) rfl
theorem mm401 : 401 ∈ zIds := List.mem_of_getElem? (i := 32) rfl
theorem mm402 : 402 ∈ zIds := List.mem_of_getElem? (i := 33) rfl
theorem mm403 : 403 ∈ zIds := List.mem_of_getElem? (i := 34) rfl
theorem mm404 : 404 ∈ zIds := List.mem_of_getElem? (i := 35) rfl
theorem mm405 : 405 ∈ zIds := List.mem_of_getElem? (i := 36) rfl
theorem mm501 : 501 ∈ zIds := List.mem_of_getElem? (i := 37) rfl
theorem mm502 : 502 ∈ zIds := List.mem_of_getElem? (i := 38) rfl
theorem mm503 : 503 ∈ zIds := List.mem_of_getElem? (i := 39) rfl
theorem mm504 : 504 ∈ zIds := List.mem_of_getElem? (i := 40) rfl
theorem mm505 : 505 ∈ zIds := List.mem_of_getElem? (i := 41) rfl
theorem mm506 : 506 ∈ zIds := List.mem_of_getElem? (i := 42) rfl
theorem mm507 : 507 ∈ zIds := List.mem_of_getElem? (i := 43) rfl
theorem mm508 : 508 ∈ zIds := List.mem_of_getElem? (i := 44) rfl
theorem mm509 : 509 ∈ zIds := List.mem_of_getElem? (i := 45) rfl
theorem mm510 : 510 ∈ zIds := List.mem_of_getElem? (i := 46) rfl
theorem mm511 : 511 ∈ zIds := List.mem_of_getElem? (i := 47) rfl
theorem mm512 : 512 ∈ zIds := List.mem_of_getElem? (i := 48) rfl
theorem mm513 : 513 ∈ zIds := List.mem_of_getElem? (i := 49) rfl
theorem mm514 : 514 ∈ zIds := List.mem_of_getElem? (i := 50) rfl
theorem mm601 : 601 ∈ zIds := List.mem_of_getElem? (i := 51) rfl
theorem mm602 : 602 ∈ zIds := List.mem_of_getElem? (i := 52) rfl
theorem mm603 : 603 ∈ zIds := List.mem_of_getElem? (i := 53) rfl
theorem mm604 : 604 ∈ zIds := List.mem_of_getElem? (i := 54) rfl
theorem mm605 : 605 ∈ zIds := List.mem_of_getElem? (i := 55) rfl
theorem mm701 : 701 ∈ zIds := List.mem_of_getElem? (i := 56) rfl
theorem mm702 : 702 ∈ zIds := List.mem_of_getElem? (i := 57) rfl
theorem mm703 : 703 ∈ zIds := List.mem_of_getElem? (i := 58) rfl
theorem mm704 : 704 ∈ zIds := List.mem_of_getElem? (i := 59) rfl
theorem mm705 : 705 ∈ zIds := List.mem_of_getElem? (i := 60) rfl
theorem mm706 : 706 ∈ zIds := List.mem_of_getElem? (i := 61) rfl
theorem mm707 : 707 ∈ zIds := List.mem_of_getElem? (i := 62) rfl
theorem mm708 : 708 ∈ zIds := List.mem_of_getElem? (i := 63) rfl
theorem mm709 : 709 ∈ zIds := List.mem_of_getElem? (i := 64) rfl
theorem mm710 : 710 ∈ zIds := List.mem_of_getElem? (i := 65) rfl
theorem mm711 : 711 ∈ zIds := List.mem_of_getElem? (i := 66) rfl
theorem mm712 : 712 ∈ zIds := List.mem_of_getElem? (i := 67) rfl
theorem mm713 : 713 ∈ zIds := List.mem_of_getElem? (i := 68) rfl
theorem mm714 : 714 ∈ zIds := List.mem_of_getElem? (i := 69) rfl
theorem mm715 : 715 ∈ zIds := List.mem_of_getElem? (i := 70) rfl
theorem mm716 : 716 ∈ zIds := List.mem_of_getElem? (i := 71) rfl
theorem mm717 : 717 ∈ zIds := List.mem_of_getElem? (i := 72) rfl
theorem mm718 : 718 ∈ zIds := List.mem_of_getElem? (i := 73) rfl
theorem mm719 : 719 ∈ zIds := List.mem_of_getElem? (i := 74) rfl
theorem mm720 : 720 ∈ zIds := List.mem_of_getElem? (i := 75) rfl
theorem mm721 : 721 ∈ zIds := List.mem_of_getElem? (i := 76) rfl
theorem mm722 : 722 ∈ zIds := List.mem_of_getElem? (i := 77) rfl
theorem mm723 : 723 ∈ zIds := List.mem_of_getElem? (i := 78) rfl
theorem mm724 : 724 ∈ zIds := List.mem_of_getElem? (i := 79) rfl
theorem mm725 : 725 ∈ zIds := List.mem_of_getElem? (i := 80) rfl
theorem mm726 : 726 ∈ zIds := List.mem_of_getElem? (i := 81) rfl
theorem mm727 : 727 ∈ zIds := List.mem_of_getElem? (i := 82) rfl
theorem mm728 : 728 ∈ zIds := List.mem_of_getElem? (i := 83) rfl
theorem mm729 : 729 ∈ zIds := List.mem_of_getElem? (i := 84) rfl
theorem mm730 : 730 ∈ zIds := List.mem_of_getElem? (i := 85) rfl
theorem mm731 : 731 ∈ zIds := List.mem_of_getElem? (i := 86) rfl
theorem mm732 : 732 ∈ zIds := List.mem_of_getElem? (i := 87) rfl
theorem mm733 : 733 ∈ zIds := List.mem_of_getElem? (i := 88) rfl
theorem mm734 : 734 ∈ zIds := List.mem_of_getElem? (i := 89) rfl
theorem mm735 : 735 ∈ zIds := List.mem_of_getElem? (i := 90) rfl
theorem mm736 : 736 ∈ zIds := List.mem_of_getElem? (i := 91) rfl
theorem mm737 : 737 ∈ zIds := List.mem_of_getElem? (i := 92) rfl
theorem mm738 : 738 ∈ zIds := List.mem_of_getElem? (i := 93) rfl
theorem mm739 : 739 ∈ zIds := List.mem_of_getElem? (i := 94) rfl
theorem mm740 : 740 ∈ zIds := List.mem_of_getElem? (i := 95) rfl
theorem mm741 : 741 ∈ zIds := List.mem_of_getElem? (i := 96) rfl
theorem mm742 : 742 ∈ zIds := List.mem_of_getElem? (i := 97) rfl
theorem mm743 : 743 ∈ zIds := List.mem_of_getElem? (i := 98) rfl
theorem mm744 : 744 ∈ zIds := List.mem_of_getElem? (i := 99) rfl
theorem mm801 : 801 ∈ zIds := List.mem_of_getElem? (i := 100) rfl
theorem mm802 : 802 ∈ zIds := List.mem_of_getElem? (i := 101) rfl
theorem mm803 : 803 ∈ zIds := List.mem_of_getElem? (i := 102) rfl
theorem mm804 : 804 ∈ zIds := List.mem_of_getElem? (i := 103) rfl
theorem mm805 : 805 ∈ zIds := List.mem_of_getElem? (i := 104) rfl
theorem mm806 : 806 ∈ zIds := List.mem_of_getElem? (i := 105) rfl
theorem mm807 : 807 ∈ zIds := List.mem_of_getElem? (i := 106) rfl
theorem mm808 : 808 ∈ zIds := List.mem_of_getElem? (i := 107) rfl
theorem mm809 : 809 ∈ zIds := List.mem_of_getElem? (i := 108) rfl
theorem mm810 : 810 ∈ zIds := List.mem_of_getElem? (i := 109) rfl
theorem mm811 : 811 ∈ zIds := List.mem_of_getElem? (i := 110) rfl
theorem mm812 : 812 ∈ zIds := List.mem_of_getElem? (i := 111) rfl
theorem mm813 : 813 ∈ zIds := List.mem_of_getElem? (i := 112) rfl
theorem mm814 : 814 ∈ zIds := List.mem_of_getElem? (i := 113) rfl
theorem mm815 : 815 ∈ zIds := List.mem_of_getElem? (i := 114) rfl
theorem mm816 : 816 ∈ zIds := List.mem_of_getElem? (i := 115) rfl
theorem mm817 : 817 ∈ zIds := List.mem_of_getElem? (i := 116) rfl
theorem mm818 : 818 ∈ zIds := List.mem_of_getElem? (i := 117) rfl
theorem mm819 : 819 ∈ zIds := List.mem_of_getElem? (i := 118) rfl
theorem mm820 : 820 ∈ zIds := List.mem_of_getElem? (i := 119) rfl
theorem mm821 : 821 ∈ zIds := List.mem_of_getElem? (i := 120) rfl
theorem mm822 : 822 ∈ zIds := List.mem_of_getElem? (i := 121) rfl
theorem mm823 : 823 ∈ zIds := List.mem_of_getElem? (i := 122) rfl
theorem mm824 : 824 ∈ zIds := List.mem_of_getElem? (i := 123) rfl
theorem mm825 : 825 ∈ zIds := List.mem_of_getElem? (i := 124) rfl
theorem mm826 : 826 ∈ zIds := List.mem_of_getElem? (i := 125) rfl
theorem mm827 : 827 ∈ zIds := List.mem_of_getElem? (i := 126) rfl
theorem mm828 : 828 ∈ zIds := List.mem_of_getElem? (i := 127) rfl
theorem mm829 : 829 ∈ zIds := List.mem_of_getElem? (i := 128) rfl
theorem mm830 : 830 ∈ zIds := List.mem_of_getElem? (i := 129) rfl
theorem mm831 : 831 ∈ zIds := List.mem_of_getElem? (i := 130) rfl
theorem mm832 : 832 ∈ zIds := List.mem_of_getElem? (i := 131) rfl
theorem mm833 : 833 ∈ zIds := List.mem_of_getElem? (i := 132) rfl
theorem mm834 : 834 ∈ zIds := List.mem_of_getElem? (i := 133) rfl
theorem mm835 : 835 ∈ zIds := List.mem_of_getElem? (i := 134) rfl
theorem mm836 : 836 ∈ zIds := List.mem_of_getElem? (i := 135) rfl
theorem mm837 : 837 ∈ zIds := List.mem_of_getElem? (i := 136) rfl
theorem mm838 : 838 ∈ zIds := List.mem_of_getElem? (i := 137) rfl
theorem mm839 : 839 ∈ zIds := List.mem_of_getElem? (i := 138) rfl
theorem mm840 : 840 ∈ zIds := List.mem_of_getElem? (i := 139) rfl
theorem mm841 : 841 ∈ zIds := List.mem_of_getElem? (i := 140) rfl
theorem mm842 : 842 ∈ zIds := List.mem_of_getElem? (i := 141) rfl
theorem mm843 : 843 ∈ zIds := List.mem_of_getElem? (i := 142) rfl
theorem mm844 : 844 ∈ zIds := List.mem_of_getElem? (i := 143) rfl
theorem mm845 : 845 ∈ zIds := List.mem_of_getElem? (i := 144) rfl
theorem mm846 : 846 ∈ zIds := List.mem_of_getElem? (i := 145) rfl
theorem mm847 : 847 ∈ zIds := List.mem_of_getElem? (i := 146) rfl
theorem mm848 : 848 ∈ zIds := List.mem_of_getElem? (i := 147) rfl
theorem mm849 : 849 ∈ zIds := List.mem_of_getElem? (i := 148) rfl
theorem mm850 : 850 ∈ zIds := List.mem_of_getElem? (i := 149) rfl
theorem mm851 : 851 ∈ zIds := List.mem_of_getElem? (i := 150) rfl
theorem mm852 : 852 ∈ zIds := List.mem_of_getElem? (i := 151) rfl
theorem mm853 : 853 ∈ zIds := List.mem_of_getElem? (i := 152) rfl
theorem mm854 : 854 ∈ zIds := List.mem_of_getElem? (i := 153) rfl
theorem mm855 : 855 ∈ zIds := List.mem_of_getElem? (i := 154) rfl
theorem mm856 : 856 ∈ zIds := List.mem_of_getElem? (i := 155) rfl
theorem mm857 : 857 ∈ zIds := List.mem_of_getElem? (i := 156) rfl
theorem mm858 : 858 ∈ zIds := List.mem_of_getElem? (i := 157) rfl
theorem mm859 : 859 ∈ zIds := List.mem_of_getElem? (i := 158) rfl
theorem mm860 : 860 ∈ zIds := List.mem_of_getElem? (i := 159) rfl
theorem mm861 : 861 ∈ zIds := List.mem_of_getElem? (i := 160) rfl
theorem mm862 : 862 ∈ zIds := List.mem_of_getElem? (i := 161) rfl
theorem mm863 : 863 ∈ zIds := List.mem_of_getElem? (i := 162) rfl
theorem mm864 : 864 ∈ zIds := List.mem_of_getElem? (i := 163) rfl
theorem mm865 : 865 ∈ zIds := List.mem_of_getElem? (i := 164) rfl
theorem mm866 : 866 ∈ zIds := List.mem_of_getElem? (i := 165) rfl
theorem mm867 : 867 ∈ zIds := List.mem_of_getElem? (i := 166) rfl
theorem mm868 : 868 ∈ zIds := List.mem_of_getElem? (i := 167) rfl
theorem mm869 : 869 ∈ zIds := List.mem_of_getElem? (i := 168) rfl
theorem mm870 : 870 ∈ zIds := List.mem_of_getElem? (i := 169) rfl
theorem mm871 : 871 ∈ zIds := List.mem_of_getElem? (i := 170) rfl
theorem mm872 : 872 ∈ zIds := List.mem_of_getElem? (i := 171) rfl
theorem mm901 : 901 ∈ zIds := List.mem_of_getElem? (i := 172) rfl
theorem mm1001 : 1001 ∈ zIds := List.mem_of_getElem? (i := 173) rfl
theorem mm1002 : 1002 ∈ zIds := List.mem_of_getElem? (i := 174) rfl
theorem mm1003 : 1003 ∈ zIds := List.mem_of_getElem? (i := 175) rfl
theorem mm1004 : 1004 ∈ zIds := List.mem_of_getElem? (i := 176) rfl
theorem mm1005 : 1005 ∈ zIds := List.mem_of_getElem? (i := 177) rfl
theorem mm1101 : 1101 ∈ zIds := List.mem_of_getElem? (i := 178) rfl
theorem mm1201 : 1201 ∈ zIds := List.mem_of_getElem? (i := 179) rfl
