/-! A DOUBLE'S END, SUMS OF ANSWERS (the checksum), the mean. -/
section KD
variable {p : Program} {l : Launch} {e : Env} {R : Room} {s : State} {m : MethodId} {args : Array Value} {below : List Frame} {meth : Method} {c : Code} {H : Heap} {locs : List Loc} {cells slots : Nat} {G : kG} {A : Nat → Prop} {cc : ByteArray} {pc : Nat} {ls : Array Slot} {S : Type}
theorem km_dret {post : UInt64 → S → Prop} {wo : S → va_W} {v : UInt64} (u : S) (hexec : p.tables.exec = Jvm.exec) (hb : c.code = cc) (hr : meth.sig.returnType = some .double) (hlocks : meth.locks = false) (hS : va_S A s.heap H locs) (hP : va_P G.1 vwCl (wo u) H) (hD : va_D A (wo u)) (hp : post v u) (hdg : decode cc pc = .ok (.dreturn, 1)) : W p l e R s m args below meth c H locs cells slots (MQ below (va_Qd post (fun u t => kA G A (wo u) t) A) args s cells slots A) (F0 m pc ls [.double v]) :=
  W.dret hexec hb hr (fun t ht _ => ⟨⟨v, u, rfl, hp, by rw [ht]; exact hP, hD⟩, hS.F ht⟩) hS.2.2 hdg hlocks
end KD
theorem kd_n64 {x : UInt64} (h : Jvm.FP.Core.dIsNaN x = false) : vf_n64 x := by
  unfold vf_n64
  rw [UInt64.le_iff_toNat_le, UInt64.toNat_and]
  have h1 : (0x7fffffffffffffff : UInt64).toNat = 2 ^ 63 - 1 := by decide
  have h2 : (0x7ff0000000000000 : UInt64).toNat = 9218868437227405312 := by decide
  rw [h1, h2, Nat.and_two_pow_sub_one_eq_mod]
  rw [← Bool.not_eq_true, Jvm.FP.Core.isNaN_bits] at h
  omega
theorem kd_out (a : Int32) {k : Int32} (hk : k ≠ 0) : Jvm.FP.Core.dIsNaN (FP.ddiv (FP.i2d a) (FP.i2d k)) = false := by
  refine Jvm.FP.Core.ddiv_out ?_ (Jvm.FP.Core.i2d_fin k) (fun z => Jvm.FP.Core.i2d_ne_zero hk ((Jvm.FP.Core.zero_bits2 _).mp z))
  rw [Jvm.FP.Core.notNaN_iff]
  exact (Jvm.FP.Core.i2d_fin a).ne_nan
theorem kd_div (a : Int32) {k : Int32} (hk : k ≠ 0) : vf_n64 (FP.ddiv (FP.i2d a) (FP.i2d k)) := kd_n64 (kd_out a hk)
def mMean (k a : Nat) : UInt64 := if k = 0 then FP.dconst0 else FP.ddiv (FP.i2d (nI a)) (FP.i2d (nI k))
theorem mMean_0 {k a : Nat} (h : k = 0) : mMean k a = FP.dconst0 := if_pos h
theorem mMean_s {k a : Nat} (h : ¬ k = 0) : mMean k a = FP.ddiv (FP.i2d (nI a)) (FP.i2d (nI k)) := if_neg h
/-- the mean is a number: it is what it is -/
theorem mMean_self {k a : Nat} (hk : k < 2 ^ 31) : FP.dcmp (mMean k a) (mMean k a) = some .eq := by
  refine Jvm.FP.Core.dcmp_self ?_
  rw [← Jvm.FP.Core.notNaN_iff]
  by_cases h : k = 0
  · rw [mMean_0 h]; decide
  · rw [mMean_s h]
    exact kd_out _ (nI_ne0 (by omega) hk)
theorem mHas_sum {hd : Nat → Option Nat} {nh : Nat} (hnh : nh ≤ 10) : mSum (mHas hd) nh < 2 ^ 31 := by
  have h1 : mSum (mHas hd) nh ≤ nh * 10 := mSum_le (fun k _ => mHas_le hd k)
  omega
/-- d times 31, and the next answer -/
def dF (f : Nat → Int32) : Nat → Int64 → Int64
  | 0, d => d
  | n + 1, d => dF f n d * (31 : Int64) + (f n).toInt64
def dG (g : Nat → Int64 → Int64) : Nat → Int64 → Int64
  | 0, d => d
  | n + 1, d => g n (dG g n d)
