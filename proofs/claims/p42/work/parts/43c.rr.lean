/-! ## all groups together -/
def blg (h : am_H) (s : Int32) : Nat → Int32
  | 0 => 0
  | n + 1 => blg h s n ||| (if bt s n && !decide (m_gi h 11 0 n = -1) then one (m_gi h 11 0 n).toNatClampNeg ||| m_gi h 13 0 (m_gi h 11 0 n).toNatClampNeg else 0)
theorem blg_eq {g h : am_H} (e1 : m_gi g 11 = m_gi h 11) (e2 : m_gi g 13 = m_gi h 13) (s : Int32) : ∀ n, blg g s n = blg h s n
  | 0 => rfl
  | n + 1 => by rw [blg, blg, blg_eq e1 e2 s n, e1, e2]
/-- nothing is above itself; what does not wait is filed as it belongs -/
def RIv (W Tn : Nat) (h : am_H) : Prop := (∀ t : Nat, t < 30 → bt (m_gi h 13 0 t) t = false) ∧ ∀ k : Nat, k < W → m_gi h 42 0 k = 0 → m_gi h 41 0 k = blg h (m_gi h 40 0 k) Tn
theorem RIv.frm {P : Nat → Nat → Bool} {W Tn : Nat} {h g : am_H} (F : Frm P h g) (R : RIv W Tn h) (p0 : ∀ j, P 11 j = true := by intro _; rfl) (p1 : ∀ j, P 13 j = true := by intro _; rfl) (p2 : ∀ j, P 40 j = true := by intro _; rfl) (p3 : ∀ j, P 41 j = true := by intro _; rfl) (p4 : ∀ j, P 42 j = true := by intro _; rfl) : RIv W Tn g := by
  have e0 : m_gi g 11 = m_gi h 11 := funext fun k => funext fun j => F.1 11 k j (p0 j)
  have e1 : m_gi g 13 = m_gi h 13 := funext fun k => funext fun j => F.1 13 k j (p1 j)
  have e2 : m_gi g 40 = m_gi h 40 := funext fun k => funext fun j => F.1 40 k j (p2 j)
  have e3 : m_gi g 41 = m_gi h 41 := funext fun k => funext fun j => F.1 41 k j (p3 j)
  have e4 : m_gi g 42 = m_gi h 42 := funext fun k => funext fun j => F.1 42 k j (p4 j)
  refine ⟨fun t ht => ?_, fun k hk hw => ?_⟩
  · rw [e1]; exact R.1 t ht
  · rw [e3, e2, blg_eq e0 e1]; rw [e4] at hw; exact R.2 k hk hw
def RR (W Cn Tn Sn Qn : Nat) (h : am_H) : Prop := ShC h ∧ ShM h ∧ RDay h ∧ RBlk h ∧ RSam h ∧ RWn W h ∧ RWa W h ∧ RWc W h ∧ RWp W h ∧ RWl W h ∧ RWo W Cn h ∧ RWt W Tn h ∧ RWf W Tn h ∧ RWw W h ∧ RWs W h ∧ RWk W h ∧ RCo Cn h ∧ RTg Tn h ∧ RPa Tn h ∧ RTp h ∧ RSg Sn Tn h ∧ RCm Qn W h ∧ RSb h ∧ RDg h ∧ RIv W Tn h
theorem RR.H {W Cn Tn Sn Qn : Nat} {h : am_H} (R : RR W Cn Tn Sn Qn h) : ShC h := R.1
theorem RR.G {W Cn Tn Sn Qn : Nat} {h : am_H} (R : RR W Cn Tn Sn Qn h) : ShM h := R.2.1
theorem RR.rDay {W Cn Tn Sn Qn : Nat} {h : am_H} (R : RR W Cn Tn Sn Qn h) : RDay h := R.2.2.1
theorem RR.rBlk {W Cn Tn Sn Qn : Nat} {h : am_H} (R : RR W Cn Tn Sn Qn h) : RBlk h := R.2.2.2.1
theorem RR.rSam {W Cn Tn Sn Qn : Nat} {h : am_H} (R : RR W Cn Tn Sn Qn h) : RSam h := R.2.2.2.2.1
theorem RR.N {W Cn Tn Sn Qn : Nat} {h : am_H} (R : RR W Cn Tn Sn Qn h) : RWn W h := R.2.2.2.2.2.1
theorem RR.rWa {W Cn Tn Sn Qn : Nat} {h : am_H} (R : RR W Cn Tn Sn Qn h) : RWa W h := R.2.2.2.2.2.2.1
theorem RR.rWc {W Cn Tn Sn Qn : Nat} {h : am_H} (R : RR W Cn Tn Sn Qn h) : RWc W h := R.2.2.2.2.2.2.2.1
theorem RR.rWp {W Cn Tn Sn Qn : Nat} {h : am_H} (R : RR W Cn Tn Sn Qn h) : RWp W h := R.2.2.2.2.2.2.2.2.1
theorem RR.rWl {W Cn Tn Sn Qn : Nat} {h : am_H} (R : RR W Cn Tn Sn Qn h) : RWl W h := R.2.2.2.2.2.2.2.2.2.1
theorem RR.rWo {W Cn Tn Sn Qn : Nat} {h : am_H} (R : RR W Cn Tn Sn Qn h) : RWo W Cn h := R.2.2.2.2.2.2.2.2.2.2.1
theorem RR.rWt {W Cn Tn Sn Qn : Nat} {h : am_H} (R : RR W Cn Tn Sn Qn h) : RWt W Tn h := R.2.2.2.2.2.2.2.2.2.2.2.1
theorem RR.rWf {W Cn Tn Sn Qn : Nat} {h : am_H} (R : RR W Cn Tn Sn Qn h) : RWf W Tn h := R.2.2.2.2.2.2.2.2.2.2.2.2.1
theorem RR.rWw {W Cn Tn Sn Qn : Nat} {h : am_H} (R : RR W Cn Tn Sn Qn h) : RWw W h := R.2.2.2.2.2.2.2.2.2.2.2.2.2.1
theorem RR.rWs {W Cn Tn Sn Qn : Nat} {h : am_H} (R : RR W Cn Tn Sn Qn h) : RWs W h := R.2.2.2.2.2.2.2.2.2.2.2.2.2.2.1
theorem RR.rWk {W Cn Tn Sn Qn : Nat} {h : am_H} (R : RR W Cn Tn Sn Qn h) : RWk W h := R.2.2.2.2.2.2.2.2.2.2.2.2.2.2.2.1
theorem RR.rCo {W Cn Tn Sn Qn : Nat} {h : am_H} (R : RR W Cn Tn Sn Qn h) : RCo Cn h := R.2.2.2.2.2.2.2.2.2.2.2.2.2.2.2.2.1
theorem RR.rTg {W Cn Tn Sn Qn : Nat} {h : am_H} (R : RR W Cn Tn Sn Qn h) : RTg Tn h := R.2.2.2.2.2.2.2.2.2.2.2.2.2.2.2.2.2.1
theorem RR.rPa {W Cn Tn Sn Qn : Nat} {h : am_H} (R : RR W Cn Tn Sn Qn h) : RPa Tn h := R.2.2.2.2.2.2.2.2.2.2.2.2.2.2.2.2.2.2.1
theorem RR.rTp {W Cn Tn Sn Qn : Nat} {h : am_H} (R : RR W Cn Tn Sn Qn h) : RTp h := R.2.2.2.2.2.2.2.2.2.2.2.2.2.2.2.2.2.2.2.1
theorem RR.rSg {W Cn Tn Sn Qn : Nat} {h : am_H} (R : RR W Cn Tn Sn Qn h) : RSg Sn Tn h := R.2.2.2.2.2.2.2.2.2.2.2.2.2.2.2.2.2.2.2.2.1
theorem RR.rCm {W Cn Tn Sn Qn : Nat} {h : am_H} (R : RR W Cn Tn Sn Qn h) : RCm Qn W h := R.2.2.2.2.2.2.2.2.2.2.2.2.2.2.2.2.2.2.2.2.2.1
theorem RR.rSb {W Cn Tn Sn Qn : Nat} {h : am_H} (R : RR W Cn Tn Sn Qn h) : RSb h := R.2.2.2.2.2.2.2.2.2.2.2.2.2.2.2.2.2.2.2.2.2.2.1
theorem RR.rDg {W Cn Tn Sn Qn : Nat} {h : am_H} (R : RR W Cn Tn Sn Qn h) : RDg h := R.2.2.2.2.2.2.2.2.2.2.2.2.2.2.2.2.2.2.2.2.2.2.2.1
theorem RR.rIv {W Cn Tn Sn Qn : Nat} {h : am_H} (R : RR W Cn Tn Sn Qn h) : RIv W Tn h := R.2.2.2.2.2.2.2.2.2.2.2.2.2.2.2.2.2.2.2.2.2.2.2.2
