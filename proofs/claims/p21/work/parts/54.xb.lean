theorem updN {f : Nat → Int32} {i j : Nat} {x : Int32} (h : j ≠ i) : upd f i x j = f j := by simp [upd, h]
theorem updS {f : Nat → Int32} {i : Nat} {x : Int32} : upd f i x i = x := by simp [upd]
theorem cp5 {c : Int32} (h : 0 ≤ c.toInt ∧ c.toInt ≤ 4995) : cp_ok 0 c 5 5 5000 := by
  have e : c.toNatClampNeg = c.toInt.toNat := rfl
  have e5 : (5 : Int32).toNatClampNeg = 5 := rfl
  have e0 : (0 : Int32).toNatClampNeg = 0 := rfl
  refine ⟨by decide, fun hc => ?_, by decide, by omega, by omega⟩
  have := Int32.lt_iff_toInt_lt.mp hc
  have z : (0 : Int32).toInt = 0 := rfl
  omega
theorem updR {P : Int32 → Prop} {f : Nat → Int32} {i : Nat} {x : Int32} (h : ∀ j, P (f j)) (hx : P x) : ∀ j, P (upd f i x j) := by
  intro j
  unfold upd
  split
  · exact hx
  · exact h j
def HasF (hm : Nat → Int32) (f : Int32) : Prop := 0 ≤ f.toInt ∧ f.toInt ≤ 25 ∧ 0 ≤ (hm f.toNatClampNeg).toInt
theorem HasF.r {hm : Nat → Int32} {f : Int32} (h : HasF hm f) : 0 ≤ f.toInt ∧ f.toInt ≤ 25 ∧ 0 ≤ (hm f.toNatClampNeg).toInt := h
def stp (hm : Nat → Int32) (k f v : Int32) : Prop := k.toInt = 3 ∨ (k.toInt = 2 ∧ 0 ≤ v.toInt ∧ v.toInt ≤ 40) ∨ ((k.toInt = 0 ∨ k.toInt = 1) ∧ HasF hm f)
abbrev Gx : Type := (Nat → Int32) × Int × (Nat → Int32) × (Nat → Int32) × (Nat → Int32) × Int32
def Gx.hm (G : Gx) : Nat → Int32 := G.1
def Gx.rg (G : Gx) : Int := G.2.1
def Gx.sk (G : Gx) : Nat → Int32 := G.2.2.1
def Gx.sf (G : Gx) : Nat → Int32 := G.2.2.2.1
def Gx.sv (G : Gx) : Nat → Int32 := G.2.2.2.2.1
def Gx.L (G : Gx) : Int32 := G.2.2.2.2.2
def IX (G : Gx) (K : Int) (M : Mm) : Prop := (M.1 38 = G.hm) ∧ (∀ j, -1 ≤ (G.hm j).toInt ∧ (G.hm j).toInt < G.rg) ∧ ((M.1 24 0).toInt = G.rg) ∧ (0 ≤ G.rg ∧ G.rg ≤ 16) ∧ (M.1 21 2 = G.L) ∧ (0 ≤ G.L.toInt ∧ G.L.toInt ≤ 480) ∧ (0 ≤ (M.1 21 3).toInt ∧ (M.1 21 3).toInt ≤ 480) ∧ (∀ j, ((M.1 22 j).toUInt32 % 65536).toInt32 = M.1 22 j) ∧ (0 ≤ (M.1 1 0).toInt ∧ (M.1 1 0).toInt ≤ 16) ∧ (0 ≤ (M.1 1 6).toInt ∧ (M.1 1 6).toInt ≤ 128) ∧ (∀ j, -1 ≤ (M.1 4 j).toInt ∧ (M.1 4 j).toInt ≤ 25) ∧ (∀ j, 0 ≤ (M.1 5 j).toInt) ∧ (∀ j, -1 ≤ (M.1 7 j).toInt ∧ (M.1 7 j).toInt ≤ 25) ∧ (∀ j, 0 ≤ (M.1 9 j).toInt ∧ (M.1 9 j).toInt ≤ 15) ∧ (∀ j, -1 ≤ (M.1 10 j).toInt ∧ (M.1 10 j).toInt ≤ 6) ∧ (0 ≤ (M.1 14 0).toInt ∧ (M.1 14 0).toInt ≤ 12) ∧ (∀ j, -1 ≤ (M.1 16 j).toInt ∧ (M.1 16 j).toInt ≤ 25) ∧ (∀ j, -1 ≤ (M.1 17 j).toInt ∧ (M.1 17 j).toInt ≤ 25) ∧ (∀ j : Nat, (j : Int) < (M.1 1 6).toInt → 0 ≤ (M.1 7 j).toInt) ∧ (∀ j : Nat, (j : Int) < (M.1 1 6).toInt → 0 ≤ (M.1 10 j).toInt) ∧ (∀ j : Nat, (j : Int) < (M.1 1 6).toInt → (M.1 9 j).toInt ≤ (M.1 1 0).toInt) ∧ (∀ j : Nat, (j : Int) < (M.1 14 0).toInt → 0 ≤ (M.1 16 j).toInt) ∧ (∀ j : Nat, (j : Int) < (M.1 14 0).toInt → 0 ≤ (M.1 17 j).toInt) ∧ (∀ j, 0 ≤ (M.1 19 j).toInt) ∧ (∀ j, 0 ≤ (M.1 20 j).toInt) ∧ (∀ j : Nat, (j : Int) < G.rg → (M.1 26 j).toInt = -1 ∨ HasF G.hm (M.1 26 j)) ∧ (0 ≤ (M.1 43 0).toInt ∧ (M.1 43 0).toInt ≤ 12) ∧ (∀ j : Nat, (j : Int) < (M.1 43 0).toInt → 0 ≤ (M.1 45 j).toInt ∧ (M.1 45 j).toInt ≤ 25) ∧ (∀ j : Nat, (j : Int) < (M.1 43 0).toInt → HasF G.hm (M.1 46 j)) ∧ (0 ≤ (M.1 53 0).toInt ∧ (M.1 53 0).toInt ≤ K) ∧ (0 ≤ (M.1 60 2).toInt ∧ (M.1 60 2).toInt ≤ 16) ∧ (∀ j, 0 ≤ (M.1 63 j).toInt ∧ (M.1 63 j).toInt ≤ 15) ∧ (0 ≤ (M.1 65 0).toInt ∧ (M.1 65 0).toInt ≤ 8) ∧ (∀ j : Nat, (j : Int) < (M.1 65 0).toInt → HasF G.hm (M.1 67 j)) ∧ (0 ≤ (M.1 69 0).toInt ∧ (M.1 69 0).toInt ≤ 40) ∧ (M.1 70 = G.sk) ∧ (M.1 71 = G.sf) ∧ (M.1 72 = G.sv) ∧ (∀ j : Nat, (j : Int) < (M.1 69 0).toInt → stp G.hm (G.sk j) (G.sf j) (G.sv j)) ∧ (0 ≤ (M.1 73 6).toInt ∧ (M.1 73 6).toInt ≤ 1000) ∧ (∀ j, 0 ≤ (M.1 76 j).toInt ∧ (M.1 76 j).toInt ≤ 1000)
theorem IX.hmE {G : Gx} {K : Int} {M : Mm} (h : IX G K M) : M.1 38 = G.hm := h.1
theorem IX.hmR {G : Gx} {K : Int} {M : Mm} (h : IX G K M) : ∀ j, -1 ≤ (G.hm j).toInt ∧ (G.hm j).toInt < G.rg := h.2.1
theorem IX.rgE {G : Gx} {K : Int} {M : Mm} (h : IX G K M) : (M.1 24 0).toInt = G.rg := h.2.2.1
theorem IX.rgR {G : Gx} {K : Int} {M : Mm} (h : IX G K M) : 0 ≤ G.rg ∧ G.rg ≤ 16 := h.2.2.2.1
theorem IX.LE {G : Gx} {K : Int} {M : Mm} (h : IX G K M) : M.1 21 2 = G.L := h.2.2.2.2.1
theorem IX.LR {G : Gx} {K : Int} {M : Mm} (h : IX G K M) : 0 ≤ G.L.toInt ∧ G.L.toInt ≤ 480 := h.2.2.2.2.2.1
theorem IX.atR {G : Gx} {K : Int} {M : Mm} (h : IX G K M) : 0 ≤ (M.1 21 3).toInt ∧ (M.1 21 3).toInt ≤ 480 := h.2.2.2.2.2.2.1
theorem IX.tapeC {G : Gx} {K : Int} {M : Mm} (h : IX G K M) : ∀ j, ((M.1 22 j).toUInt32 % 65536).toInt32 = M.1 22 j := h.2.2.2.2.2.2.2.1
theorem IX.dreg {G : Gx} {K : Int} {M : Mm} (h : IX G K M) : 0 ≤ (M.1 1 0).toInt ∧ (M.1 1 0).toInt ≤ 16 := h.2.2.2.2.2.2.2.2.1
theorem IX.dfl {G : Gx} {K : Int} {M : Mm} (h : IX G K M) : 0 ≤ (M.1 1 6).toInt ∧ (M.1 1 6).toInt ≤ 128 := h.2.2.2.2.2.2.2.2.2.1
theorem IX.dbank {G : Gx} {K : Int} {M : Mm} (h : IX G K M) : ∀ j, -1 ≤ (M.1 4 j).toInt ∧ (M.1 4 j).toInt ≤ 25 := h.2.2.2.2.2.2.2.2.2.2.1
theorem IX.dbp {G : Gx} {K : Int} {M : Mm} (h : IX G K M) : ∀ j, 0 ≤ (M.1 5 j).toInt := h.2.2.2.2.2.2.2.2.2.2.2.1
theorem IX.dname {G : Gx} {K : Int} {M : Mm} (h : IX G K M) : ∀ j, -1 ≤ (M.1 7 j).toInt ∧ (M.1 7 j).toInt ≤ 25 := h.2.2.2.2.2.2.2.2.2.2.2.2.1
theorem IX.dhome {G : Gx} {K : Int} {M : Mm} (h : IX G K M) : ∀ j, 0 ≤ (M.1 9 j).toInt ∧ (M.1 9 j).toInt ≤ 15 := h.2.2.2.2.2.2.2.2.2.2.2.2.2.1
theorem IX.dacc {G : Gx} {K : Int} {M : Mm} (h : IX G K M) : ∀ j, -1 ≤ (M.1 10 j).toInt ∧ (M.1 10 j).toInt ≤ 6 := h.2.2.2.2.2.2.2.2.2.2.2.2.2.2.1
theorem IX.drc {G : Gx} {K : Int} {M : Mm} (h : IX G K M) : 0 ≤ (M.1 14 0).toInt ∧ (M.1 14 0).toInt ≤ 12 := h.2.2.2.2.2.2.2.2.2.2.2.2.2.2.2.1
theorem IX.da {G : Gx} {K : Int} {M : Mm} (h : IX G K M) : ∀ j, -1 ≤ (M.1 16 j).toInt ∧ (M.1 16 j).toInt ≤ 25 := h.2.2.2.2.2.2.2.2.2.2.2.2.2.2.2.2.1
theorem IX.db {G : Gx} {K : Int} {M : Mm} (h : IX G K M) : ∀ j, -1 ≤ (M.1 17 j).toInt ∧ (M.1 17 j).toInt ≤ 25 := h.2.2.2.2.2.2.2.2.2.2.2.2.2.2.2.2.2.1
theorem IX.dnm {G : Gx} {K : Int} {M : Mm} (h : IX G K M) : ∀ j : Nat, (j : Int) < (M.1 1 6).toInt → 0 ≤ (M.1 7 j).toInt := h.2.2.2.2.2.2.2.2.2.2.2.2.2.2.2.2.2.2.1
theorem IX.dac {G : Gx} {K : Int} {M : Mm} (h : IX G K M) : ∀ j : Nat, (j : Int) < (M.1 1 6).toInt → 0 ≤ (M.1 10 j).toInt := h.2.2.2.2.2.2.2.2.2.2.2.2.2.2.2.2.2.2.2.1
theorem IX.dhr {G : Gx} {K : Int} {M : Mm} (h : IX G K M) : ∀ j : Nat, (j : Int) < (M.1 1 6).toInt → (M.1 9 j).toInt ≤ (M.1 1 0).toInt := h.2.2.2.2.2.2.2.2.2.2.2.2.2.2.2.2.2.2.2.2.1
theorem IX.dqa {G : Gx} {K : Int} {M : Mm} (h : IX G K M) : ∀ j : Nat, (j : Int) < (M.1 14 0).toInt → 0 ≤ (M.1 16 j).toInt := h.2.2.2.2.2.2.2.2.2.2.2.2.2.2.2.2.2.2.2.2.2.1
theorem IX.dqb {G : Gx} {K : Int} {M : Mm} (h : IX G K M) : ∀ j : Nat, (j : Int) < (M.1 14 0).toInt → 0 ≤ (M.1 17 j).toInt := h.2.2.2.2.2.2.2.2.2.2.2.2.2.2.2.2.2.2.2.2.2.2.1
theorem IX.dpa {G : Gx} {K : Int} {M : Mm} (h : IX G K M) : ∀ j, 0 ≤ (M.1 19 j).toInt := h.2.2.2.2.2.2.2.2.2.2.2.2.2.2.2.2.2.2.2.2.2.2.2.1
theorem IX.dpb {G : Gx} {K : Int} {M : Mm} (h : IX G K M) : ∀ j, 0 ≤ (M.1 20 j).toInt := h.2.2.2.2.2.2.2.2.2.2.2.2.2.2.2.2.2.2.2.2.2.2.2.2.1
theorem IX.bank {G : Gx} {K : Int} {M : Mm} (h : IX G K M) : ∀ j : Nat, (j : Int) < G.rg → (M.1 26 j).toInt = -1 ∨ HasF G.hm (M.1 26 j) := h.2.2.2.2.2.2.2.2.2.2.2.2.2.2.2.2.2.2.2.2.2.2.2.2.2.1
theorem IX.rc {G : Gx} {K : Int} {M : Mm} (h : IX G K M) : 0 ≤ (M.1 43 0).toInt ∧ (M.1 43 0).toInt ≤ 12 := h.2.2.2.2.2.2.2.2.2.2.2.2.2.2.2.2.2.2.2.2.2.2.2.2.2.2.1
theorem IX.ra {G : Gx} {K : Int} {M : Mm} (h : IX G K M) : ∀ j : Nat, (j : Int) < (M.1 43 0).toInt → 0 ≤ (M.1 45 j).toInt ∧ (M.1 45 j).toInt ≤ 25 := h.2.2.2.2.2.2.2.2.2.2.2.2.2.2.2.2.2.2.2.2.2.2.2.2.2.2.2.1
theorem IX.rb {G : Gx} {K : Int} {M : Mm} (h : IX G K M) : ∀ j : Nat, (j : Int) < (M.1 43 0).toInt → HasF G.hm (M.1 46 j) := h.2.2.2.2.2.2.2.2.2.2.2.2.2.2.2.2.2.2.2.2.2.2.2.2.2.2.2.2.1
theorem IX.log {G : Gx} {K : Int} {M : Mm} (h : IX G K M) : 0 ≤ (M.1 53 0).toInt ∧ (M.1 53 0).toInt ≤ K := h.2.2.2.2.2.2.2.2.2.2.2.2.2.2.2.2.2.2.2.2.2.2.2.2.2.2.2.2.2.1
theorem IX.wr {G : Gx} {K : Int} {M : Mm} (h : IX G K M) : 0 ≤ (M.1 60 2).toInt ∧ (M.1 60 2).toInt ≤ 16 := h.2.2.2.2.2.2.2.2.2.2.2.2.2.2.2.2.2.2.2.2.2.2.2.2.2.2.2.2.2.2.1
theorem IX.wreg {G : Gx} {K : Int} {M : Mm} (h : IX G K M) : ∀ j, 0 ≤ (M.1 63 j).toInt ∧ (M.1 63 j).toInt ≤ 15 := h.2.2.2.2.2.2.2.2.2.2.2.2.2.2.2.2.2.2.2.2.2.2.2.2.2.2.2.2.2.2.2.1
theorem IX.jc {G : Gx} {K : Int} {M : Mm} (h : IX G K M) : 0 ≤ (M.1 65 0).toInt ∧ (M.1 65 0).toInt ≤ 8 := h.2.2.2.2.2.2.2.2.2.2.2.2.2.2.2.2.2.2.2.2.2.2.2.2.2.2.2.2.2.2.2.2.1
theorem IX.jf {G : Gx} {K : Int} {M : Mm} (h : IX G K M) : ∀ j : Nat, (j : Int) < (M.1 65 0).toInt → HasF G.hm (M.1 67 j) := h.2.2.2.2.2.2.2.2.2.2.2.2.2.2.2.2.2.2.2.2.2.2.2.2.2.2.2.2.2.2.2.2.2.1
theorem IX.sc {G : Gx} {K : Int} {M : Mm} (h : IX G K M) : 0 ≤ (M.1 69 0).toInt ∧ (M.1 69 0).toInt ≤ 40 := h.2.2.2.2.2.2.2.2.2.2.2.2.2.2.2.2.2.2.2.2.2.2.2.2.2.2.2.2.2.2.2.2.2.2.1
theorem IX.skE {G : Gx} {K : Int} {M : Mm} (h : IX G K M) : M.1 70 = G.sk := h.2.2.2.2.2.2.2.2.2.2.2.2.2.2.2.2.2.2.2.2.2.2.2.2.2.2.2.2.2.2.2.2.2.2.2.1
theorem IX.sfE {G : Gx} {K : Int} {M : Mm} (h : IX G K M) : M.1 71 = G.sf := h.2.2.2.2.2.2.2.2.2.2.2.2.2.2.2.2.2.2.2.2.2.2.2.2.2.2.2.2.2.2.2.2.2.2.2.2.1
theorem IX.svE {G : Gx} {K : Int} {M : Mm} (h : IX G K M) : M.1 72 = G.sv := h.2.2.2.2.2.2.2.2.2.2.2.2.2.2.2.2.2.2.2.2.2.2.2.2.2.2.2.2.2.2.2.2.2.2.2.2.2.1
theorem IX.stE {G : Gx} {K : Int} {M : Mm} (h : IX G K M) : ∀ j : Nat, (j : Int) < (M.1 69 0).toInt → stp G.hm (G.sk j) (G.sf j) (G.sv j) := h.2.2.2.2.2.2.2.2.2.2.2.2.2.2.2.2.2.2.2.2.2.2.2.2.2.2.2.2.2.2.2.2.2.2.2.2.2.2.1
theorem IX.cc {G : Gx} {K : Int} {M : Mm} (h : IX G K M) : 0 ≤ (M.1 73 6).toInt ∧ (M.1 73 6).toInt ≤ 1000 := h.2.2.2.2.2.2.2.2.2.2.2.2.2.2.2.2.2.2.2.2.2.2.2.2.2.2.2.2.2.2.2.2.2.2.2.2.2.2.2.1
theorem IX.cs {G : Gx} {K : Int} {M : Mm} (h : IX G K M) : ∀ j, 0 ≤ (M.1 76 j).toInt ∧ (M.1 76 j).toInt ≤ 1000 := h.2.2.2.2.2.2.2.2.2.2.2.2.2.2.2.2.2.2.2.2.2.2.2.2.2.2.2.2.2.2.2.2.2.2.2.2.2.2.2.2
section IXS
variable {G : Gx} {K : Int} {M : Mm}
theorem IX.mono {K' : Int} (h : IX G K M) (hk : K ≤ K') : IX G K' M := ⟨h.hmE, h.hmR, h.rgE, h.rgR, h.LE, h.LR, h.atR, h.tapeC, h.dreg, h.dfl, h.dbank, h.dbp, h.dname, h.dhome, h.dacc, h.drc, h.da, h.db, h.dnm, h.dac, h.dhr, h.dqa, h.dqb, h.dpa, h.dpb, h.bank, h.rc, h.ra, h.rb, ⟨h.log.1, Int.le_trans h.log.2 hk⟩, h.wr, h.wreg, h.jc, h.jf, h.sc, h.skE, h.sfE, h.svE, h.stE, h.cc, h.cs⟩
theorem IX.s2 (h : IX G K M) (f : Nat → Int32) : IX G K (stI M 2 f) := ⟨h.hmE, h.hmR, h.rgE, h.rgR, h.LE, h.LR, h.atR, h.tapeC, h.dreg, h.dfl, h.dbank, h.dbp, h.dname, h.dhome, h.dacc, h.drc, h.da, h.db, h.dnm, h.dac, h.dhr, h.dqa, h.dqb, h.dpa, h.dpb, h.bank, h.rc, h.ra, h.rb, h.log, h.wr, h.wreg, h.jc, h.jf, h.sc, h.skE, h.sfE, h.svE, h.stE, h.cc, h.cs⟩
theorem IX.s3 (h : IX G K M) (f : Nat → Int32) : IX G K (stI M 3 f) := ⟨h.hmE, h.hmR, h.rgE, h.rgR, h.LE, h.LR, h.atR, h.tapeC, h.dreg, h.dfl, h.dbank, h.dbp, h.dname, h.dhome, h.dacc, h.drc, h.da, h.db, h.dnm, h.dac, h.dhr, h.dqa, h.dqb, h.dpa, h.dpb, h.bank, h.rc, h.ra, h.rb, h.log, h.wr, h.wreg, h.jc, h.jf, h.sc, h.skE, h.sfE, h.svE, h.stE, h.cc, h.cs⟩
theorem IX.s6 (h : IX G K M) (f : Nat → Int32) : IX G K (stI M 6 f) := ⟨h.hmE, h.hmR, h.rgE, h.rgR, h.LE, h.LR, h.atR, h.tapeC, h.dreg, h.dfl, h.dbank, h.dbp, h.dname, h.dhome, h.dacc, h.drc, h.da, h.db, h.dnm, h.dac, h.dhr, h.dqa, h.dqb, h.dpa, h.dpb, h.bank, h.rc, h.ra, h.rb, h.log, h.wr, h.wreg, h.jc, h.jf, h.sc, h.skE, h.sfE, h.svE, h.stE, h.cc, h.cs⟩
theorem IX.s8 (h : IX G K M) (f : Nat → Int32) : IX G K (stI M 8 f) := ⟨h.hmE, h.hmR, h.rgE, h.rgR, h.LE, h.LR, h.atR, h.tapeC, h.dreg, h.dfl, h.dbank, h.dbp, h.dname, h.dhome, h.dacc, h.drc, h.da, h.db, h.dnm, h.dac, h.dhr, h.dqa, h.dqb, h.dpa, h.dpb, h.bank, h.rc, h.ra, h.rb, h.log, h.wr, h.wreg, h.jc, h.jf, h.sc, h.skE, h.sfE, h.svE, h.stE, h.cc, h.cs⟩
theorem IX.s11 (h : IX G K M) (f : Nat → Int32) : IX G K (stI M 11 f) := ⟨h.hmE, h.hmR, h.rgE, h.rgR, h.LE, h.LR, h.atR, h.tapeC, h.dreg, h.dfl, h.dbank, h.dbp, h.dname, h.dhome, h.dacc, h.drc, h.da, h.db, h.dnm, h.dac, h.dhr, h.dqa, h.dqb, h.dpa, h.dpb, h.bank, h.rc, h.ra, h.rb, h.log, h.wr, h.wreg, h.jc, h.jf, h.sc, h.skE, h.sfE, h.svE, h.stE, h.cc, h.cs⟩
theorem IX.s12 (h : IX G K M) (f : Nat → Int32) : IX G K (stI M 12 f) := ⟨h.hmE, h.hmR, h.rgE, h.rgR, h.LE, h.LR, h.atR, h.tapeC, h.dreg, h.dfl, h.dbank, h.dbp, h.dname, h.dhome, h.dacc, h.drc, h.da, h.db, h.dnm, h.dac, h.dhr, h.dqa, h.dqb, h.dpa, h.dpb, h.bank, h.rc, h.ra, h.rb, h.log, h.wr, h.wreg, h.jc, h.jf, h.sc, h.skE, h.sfE, h.svE, h.stE, h.cc, h.cs⟩
theorem IX.s13 (h : IX G K M) (f : Nat → Int32) : IX G K (stI M 13 f) := ⟨h.hmE, h.hmR, h.rgE, h.rgR, h.LE, h.LR, h.atR, h.tapeC, h.dreg, h.dfl, h.dbank, h.dbp, h.dname, h.dhome, h.dacc, h.drc, h.da, h.db, h.dnm, h.dac, h.dhr, h.dqa, h.dqb, h.dpa, h.dpb, h.bank, h.rc, h.ra, h.rb, h.log, h.wr, h.wreg, h.jc, h.jf, h.sc, h.skE, h.sfE, h.svE, h.stE, h.cc, h.cs⟩
theorem IX.s15 (h : IX G K M) (f : Nat → Int32) : IX G K (stI M 15 f) := ⟨h.hmE, h.hmR, h.rgE, h.rgR, h.LE, h.LR, h.atR, h.tapeC, h.dreg, h.dfl, h.dbank, h.dbp, h.dname, h.dhome, h.dacc, h.drc, h.da, h.db, h.dnm, h.dac, h.dhr, h.dqa, h.dqb, h.dpa, h.dpb, h.bank, h.rc, h.ra, h.rb, h.log, h.wr, h.wreg, h.jc, h.jf, h.sc, h.skE, h.sfE, h.svE, h.stE, h.cc, h.cs⟩
theorem IX.s18 (h : IX G K M) (f : Nat → Int32) : IX G K (stI M 18 f) := ⟨h.hmE, h.hmR, h.rgE, h.rgR, h.LE, h.LR, h.atR, h.tapeC, h.dreg, h.dfl, h.dbank, h.dbp, h.dname, h.dhome, h.dacc, h.drc, h.da, h.db, h.dnm, h.dac, h.dhr, h.dqa, h.dqb, h.dpa, h.dpb, h.bank, h.rc, h.ra, h.rb, h.log, h.wr, h.wreg, h.jc, h.jf, h.sc, h.skE, h.sfE, h.svE, h.stE, h.cc, h.cs⟩
theorem IX.s25 (h : IX G K M) (f : Nat → Int32) : IX G K (stI M 25 f) := ⟨h.hmE, h.hmR, h.rgE, h.rgR, h.LE, h.LR, h.atR, h.tapeC, h.dreg, h.dfl, h.dbank, h.dbp, h.dname, h.dhome, h.dacc, h.drc, h.da, h.db, h.dnm, h.dac, h.dhr, h.dqa, h.dqb, h.dpa, h.dpb, h.bank, h.rc, h.ra, h.rb, h.log, h.wr, h.wreg, h.jc, h.jf, h.sc, h.skE, h.sfE, h.svE, h.stE, h.cc, h.cs⟩
theorem IX.s27 (h : IX G K M) (f : Nat → Int32) : IX G K (stI M 27 f) := ⟨h.hmE, h.hmR, h.rgE, h.rgR, h.LE, h.LR, h.atR, h.tapeC, h.dreg, h.dfl, h.dbank, h.dbp, h.dname, h.dhome, h.dacc, h.drc, h.da, h.db, h.dnm, h.dac, h.dhr, h.dqa, h.dqb, h.dpa, h.dpb, h.bank, h.rc, h.ra, h.rb, h.log, h.wr, h.wreg, h.jc, h.jf, h.sc, h.skE, h.sfE, h.svE, h.stE, h.cc, h.cs⟩
theorem IX.s28 (h : IX G K M) (f : Nat → Int32) : IX G K (stI M 28 f) := ⟨h.hmE, h.hmR, h.rgE, h.rgR, h.LE, h.LR, h.atR, h.tapeC, h.dreg, h.dfl, h.dbank, h.dbp, h.dname, h.dhome, h.dacc, h.drc, h.da, h.db, h.dnm, h.dac, h.dhr, h.dqa, h.dqb, h.dpa, h.dpb, h.bank, h.rc, h.ra, h.rb, h.log, h.wr, h.wreg, h.jc, h.jf, h.sc, h.skE, h.sfE, h.svE, h.stE, h.cc, h.cs⟩
theorem IX.s29 (h : IX G K M) (f : Nat → Int32) : IX G K (stI M 29 f) := ⟨h.hmE, h.hmR, h.rgE, h.rgR, h.LE, h.LR, h.atR, h.tapeC, h.dreg, h.dfl, h.dbank, h.dbp, h.dname, h.dhome, h.dacc, h.drc, h.da, h.db, h.dnm, h.dac, h.dhr, h.dqa, h.dqb, h.dpa, h.dpb, h.bank, h.rc, h.ra, h.rb, h.log, h.wr, h.wreg, h.jc, h.jf, h.sc, h.skE, h.sfE, h.svE, h.stE, h.cc, h.cs⟩
theorem IX.s31 (h : IX G K M) (f : Nat → Int32) : IX G K (stI M 31 f) := ⟨h.hmE, h.hmR, h.rgE, h.rgR, h.LE, h.LR, h.atR, h.tapeC, h.dreg, h.dfl, h.dbank, h.dbp, h.dname, h.dhome, h.dacc, h.drc, h.da, h.db, h.dnm, h.dac, h.dhr, h.dqa, h.dqb, h.dpa, h.dpb, h.bank, h.rc, h.ra, h.rb, h.log, h.wr, h.wreg, h.jc, h.jf, h.sc, h.skE, h.sfE, h.svE, h.stE, h.cc, h.cs⟩
theorem IX.s32 (h : IX G K M) (f : Nat → Int32) : IX G K (stI M 32 f) := ⟨h.hmE, h.hmR, h.rgE, h.rgR, h.LE, h.LR, h.atR, h.tapeC, h.dreg, h.dfl, h.dbank, h.dbp, h.dname, h.dhome, h.dacc, h.drc, h.da, h.db, h.dnm, h.dac, h.dhr, h.dqa, h.dqb, h.dpa, h.dpb, h.bank, h.rc, h.ra, h.rb, h.log, h.wr, h.wreg, h.jc, h.jf, h.sc, h.skE, h.sfE, h.svE, h.stE, h.cc, h.cs⟩
theorem IX.s33 (h : IX G K M) (f : Nat → Int32) : IX G K (stI M 33 f) := ⟨h.hmE, h.hmR, h.rgE, h.rgR, h.LE, h.LR, h.atR, h.tapeC, h.dreg, h.dfl, h.dbank, h.dbp, h.dname, h.dhome, h.dacc, h.drc, h.da, h.db, h.dnm, h.dac, h.dhr, h.dqa, h.dqb, h.dpa, h.dpb, h.bank, h.rc, h.ra, h.rb, h.log, h.wr, h.wreg, h.jc, h.jf, h.sc, h.skE, h.sfE, h.svE, h.stE, h.cc, h.cs⟩
theorem IX.s34 (h : IX G K M) (f : Nat → Int32) : IX G K (stI M 34 f) := ⟨h.hmE, h.hmR, h.rgE, h.rgR, h.LE, h.LR, h.atR, h.tapeC, h.dreg, h.dfl, h.dbank, h.dbp, h.dname, h.dhome, h.dacc, h.drc, h.da, h.db, h.dnm, h.dac, h.dhr, h.dqa, h.dqb, h.dpa, h.dpb, h.bank, h.rc, h.ra, h.rb, h.log, h.wr, h.wreg, h.jc, h.jf, h.sc, h.skE, h.sfE, h.svE, h.stE, h.cc, h.cs⟩
theorem IX.s35 (h : IX G K M) (f : Nat → Int32) : IX G K (stI M 35 f) := ⟨h.hmE, h.hmR, h.rgE, h.rgR, h.LE, h.LR, h.atR, h.tapeC, h.dreg, h.dfl, h.dbank, h.dbp, h.dname, h.dhome, h.dacc, h.drc, h.da, h.db, h.dnm, h.dac, h.dhr, h.dqa, h.dqb, h.dpa, h.dpb, h.bank, h.rc, h.ra, h.rb, h.log, h.wr, h.wreg, h.jc, h.jf, h.sc, h.skE, h.sfE, h.svE, h.stE, h.cc, h.cs⟩
theorem IX.s36 (h : IX G K M) (f : Nat → Int32) : IX G K (stI M 36 f) := ⟨h.hmE, h.hmR, h.rgE, h.rgR, h.LE, h.LR, h.atR, h.tapeC, h.dreg, h.dfl, h.dbank, h.dbp, h.dname, h.dhome, h.dacc, h.drc, h.da, h.db, h.dnm, h.dac, h.dhr, h.dqa, h.dqb, h.dpa, h.dpb, h.bank, h.rc, h.ra, h.rb, h.log, h.wr, h.wreg, h.jc, h.jf, h.sc, h.skE, h.sfE, h.svE, h.stE, h.cc, h.cs⟩
theorem IX.s37 (h : IX G K M) (f : Nat → Int32) : IX G K (stI M 37 f) := ⟨h.hmE, h.hmR, h.rgE, h.rgR, h.LE, h.LR, h.atR, h.tapeC, h.dreg, h.dfl, h.dbank, h.dbp, h.dname, h.dhome, h.dacc, h.drc, h.da, h.db, h.dnm, h.dac, h.dhr, h.dqa, h.dqb, h.dpa, h.dpb, h.bank, h.rc, h.ra, h.rb, h.log, h.wr, h.wreg, h.jc, h.jf, h.sc, h.skE, h.sfE, h.svE, h.stE, h.cc, h.cs⟩
theorem IX.s39 (h : IX G K M) (f : Nat → Int32) : IX G K (stI M 39 f) := ⟨h.hmE, h.hmR, h.rgE, h.rgR, h.LE, h.LR, h.atR, h.tapeC, h.dreg, h.dfl, h.dbank, h.dbp, h.dname, h.dhome, h.dacc, h.drc, h.da, h.db, h.dnm, h.dac, h.dhr, h.dqa, h.dqb, h.dpa, h.dpb, h.bank, h.rc, h.ra, h.rb, h.log, h.wr, h.wreg, h.jc, h.jf, h.sc, h.skE, h.sfE, h.svE, h.stE, h.cc, h.cs⟩
theorem IX.s40 (h : IX G K M) (f : Nat → Int32) : IX G K (stI M 40 f) := ⟨h.hmE, h.hmR, h.rgE, h.rgR, h.LE, h.LR, h.atR, h.tapeC, h.dreg, h.dfl, h.dbank, h.dbp, h.dname, h.dhome, h.dacc, h.drc, h.da, h.db, h.dnm, h.dac, h.dhr, h.dqa, h.dqb, h.dpa, h.dpb, h.bank, h.rc, h.ra, h.rb, h.log, h.wr, h.wreg, h.jc, h.jf, h.sc, h.skE, h.sfE, h.svE, h.stE, h.cc, h.cs⟩
theorem IX.s41 (h : IX G K M) (f : Nat → Int32) : IX G K (stI M 41 f) := ⟨h.hmE, h.hmR, h.rgE, h.rgR, h.LE, h.LR, h.atR, h.tapeC, h.dreg, h.dfl, h.dbank, h.dbp, h.dname, h.dhome, h.dacc, h.drc, h.da, h.db, h.dnm, h.dac, h.dhr, h.dqa, h.dqb, h.dpa, h.dpb, h.bank, h.rc, h.ra, h.rb, h.log, h.wr, h.wreg, h.jc, h.jf, h.sc, h.skE, h.sfE, h.svE, h.stE, h.cc, h.cs⟩
theorem IX.s42 (h : IX G K M) (f : Nat → Int32) : IX G K (stI M 42 f) := ⟨h.hmE, h.hmR, h.rgE, h.rgR, h.LE, h.LR, h.atR, h.tapeC, h.dreg, h.dfl, h.dbank, h.dbp, h.dname, h.dhome, h.dacc, h.drc, h.da, h.db, h.dnm, h.dac, h.dhr, h.dqa, h.dqb, h.dpa, h.dpb, h.bank, h.rc, h.ra, h.rb, h.log, h.wr, h.wreg, h.jc, h.jf, h.sc, h.skE, h.sfE, h.svE, h.stE, h.cc, h.cs⟩
theorem IX.s44 (h : IX G K M) (f : Nat → Int32) : IX G K (stI M 44 f) := ⟨h.hmE, h.hmR, h.rgE, h.rgR, h.LE, h.LR, h.atR, h.tapeC, h.dreg, h.dfl, h.dbank, h.dbp, h.dname, h.dhome, h.dacc, h.drc, h.da, h.db, h.dnm, h.dac, h.dhr, h.dqa, h.dqb, h.dpa, h.dpb, h.bank, h.rc, h.ra, h.rb, h.log, h.wr, h.wreg, h.jc, h.jf, h.sc, h.skE, h.sfE, h.svE, h.stE, h.cc, h.cs⟩
theorem IX.s47 (h : IX G K M) (f : Nat → Int32) : IX G K (stI M 47 f) := ⟨h.hmE, h.hmR, h.rgE, h.rgR, h.LE, h.LR, h.atR, h.tapeC, h.dreg, h.dfl, h.dbank, h.dbp, h.dname, h.dhome, h.dacc, h.drc, h.da, h.db, h.dnm, h.dac, h.dhr, h.dqa, h.dqb, h.dpa, h.dpb, h.bank, h.rc, h.ra, h.rb, h.log, h.wr, h.wreg, h.jc, h.jf, h.sc, h.skE, h.sfE, h.svE, h.stE, h.cc, h.cs⟩
theorem IX.s48 (h : IX G K M) (f : Nat → Int32) : IX G K (stI M 48 f) := ⟨h.hmE, h.hmR, h.rgE, h.rgR, h.LE, h.LR, h.atR, h.tapeC, h.dreg, h.dfl, h.dbank, h.dbp, h.dname, h.dhome, h.dacc, h.drc, h.da, h.db, h.dnm, h.dac, h.dhr, h.dqa, h.dqb, h.dpa, h.dpb, h.bank, h.rc, h.ra, h.rb, h.log, h.wr, h.wreg, h.jc, h.jf, h.sc, h.skE, h.sfE, h.svE, h.stE, h.cc, h.cs⟩
theorem IX.s49 (h : IX G K M) (f : Nat → Int32) : IX G K (stI M 49 f) := ⟨h.hmE, h.hmR, h.rgE, h.rgR, h.LE, h.LR, h.atR, h.tapeC, h.dreg, h.dfl, h.dbank, h.dbp, h.dname, h.dhome, h.dacc, h.drc, h.da, h.db, h.dnm, h.dac, h.dhr, h.dqa, h.dqb, h.dpa, h.dpb, h.bank, h.rc, h.ra, h.rb, h.log, h.wr, h.wreg, h.jc, h.jf, h.sc, h.skE, h.sfE, h.svE, h.stE, h.cc, h.cs⟩
theorem IX.s52 (h : IX G K M) (f : Nat → Int32) : IX G K (stI M 52 f) := ⟨h.hmE, h.hmR, h.rgE, h.rgR, h.LE, h.LR, h.atR, h.tapeC, h.dreg, h.dfl, h.dbank, h.dbp, h.dname, h.dhome, h.dacc, h.drc, h.da, h.db, h.dnm, h.dac, h.dhr, h.dqa, h.dqb, h.dpa, h.dpb, h.bank, h.rc, h.ra, h.rb, h.log, h.wr, h.wreg, h.jc, h.jf, h.sc, h.skE, h.sfE, h.svE, h.stE, h.cc, h.cs⟩
theorem IX.s54 (h : IX G K M) (f : Nat → Int32) : IX G K (stI M 54 f) := ⟨h.hmE, h.hmR, h.rgE, h.rgR, h.LE, h.LR, h.atR, h.tapeC, h.dreg, h.dfl, h.dbank, h.dbp, h.dname, h.dhome, h.dacc, h.drc, h.da, h.db, h.dnm, h.dac, h.dhr, h.dqa, h.dqb, h.dpa, h.dpb, h.bank, h.rc, h.ra, h.rb, h.log, h.wr, h.wreg, h.jc, h.jf, h.sc, h.skE, h.sfE, h.svE, h.stE, h.cc, h.cs⟩
theorem IX.s55 (h : IX G K M) (f : Nat → Int32) : IX G K (stI M 55 f) := ⟨h.hmE, h.hmR, h.rgE, h.rgR, h.LE, h.LR, h.atR, h.tapeC, h.dreg, h.dfl, h.dbank, h.dbp, h.dname, h.dhome, h.dacc, h.drc, h.da, h.db, h.dnm, h.dac, h.dhr, h.dqa, h.dqb, h.dpa, h.dpb, h.bank, h.rc, h.ra, h.rb, h.log, h.wr, h.wreg, h.jc, h.jf, h.sc, h.skE, h.sfE, h.svE, h.stE, h.cc, h.cs⟩
theorem IX.s56 (h : IX G K M) (f : Nat → Int32) : IX G K (stI M 56 f) := ⟨h.hmE, h.hmR, h.rgE, h.rgR, h.LE, h.LR, h.atR, h.tapeC, h.dreg, h.dfl, h.dbank, h.dbp, h.dname, h.dhome, h.dacc, h.drc, h.da, h.db, h.dnm, h.dac, h.dhr, h.dqa, h.dqb, h.dpa, h.dpb, h.bank, h.rc, h.ra, h.rb, h.log, h.wr, h.wreg, h.jc, h.jf, h.sc, h.skE, h.sfE, h.svE, h.stE, h.cc, h.cs⟩
theorem IX.s57 (h : IX G K M) (f : Nat → Int32) : IX G K (stI M 57 f) := ⟨h.hmE, h.hmR, h.rgE, h.rgR, h.LE, h.LR, h.atR, h.tapeC, h.dreg, h.dfl, h.dbank, h.dbp, h.dname, h.dhome, h.dacc, h.drc, h.da, h.db, h.dnm, h.dac, h.dhr, h.dqa, h.dqb, h.dpa, h.dpb, h.bank, h.rc, h.ra, h.rb, h.log, h.wr, h.wreg, h.jc, h.jf, h.sc, h.skE, h.sfE, h.svE, h.stE, h.cc, h.cs⟩
theorem IX.s58 (h : IX G K M) (f : Nat → Int32) : IX G K (stI M 58 f) := ⟨h.hmE, h.hmR, h.rgE, h.rgR, h.LE, h.LR, h.atR, h.tapeC, h.dreg, h.dfl, h.dbank, h.dbp, h.dname, h.dhome, h.dacc, h.drc, h.da, h.db, h.dnm, h.dac, h.dhr, h.dqa, h.dqb, h.dpa, h.dpb, h.bank, h.rc, h.ra, h.rb, h.log, h.wr, h.wreg, h.jc, h.jf, h.sc, h.skE, h.sfE, h.svE, h.stE, h.cc, h.cs⟩
theorem IX.s59 (h : IX G K M) (f : Nat → Int32) : IX G K (stI M 59 f) := ⟨h.hmE, h.hmR, h.rgE, h.rgR, h.LE, h.LR, h.atR, h.tapeC, h.dreg, h.dfl, h.dbank, h.dbp, h.dname, h.dhome, h.dacc, h.drc, h.da, h.db, h.dnm, h.dac, h.dhr, h.dqa, h.dqb, h.dpa, h.dpb, h.bank, h.rc, h.ra, h.rb, h.log, h.wr, h.wreg, h.jc, h.jf, h.sc, h.skE, h.sfE, h.svE, h.stE, h.cc, h.cs⟩
theorem IX.s62 (h : IX G K M) (f : Nat → Int32) : IX G K (stI M 62 f) := ⟨h.hmE, h.hmR, h.rgE, h.rgR, h.LE, h.LR, h.atR, h.tapeC, h.dreg, h.dfl, h.dbank, h.dbp, h.dname, h.dhome, h.dacc, h.drc, h.da, h.db, h.dnm, h.dac, h.dhr, h.dqa, h.dqb, h.dpa, h.dpb, h.bank, h.rc, h.ra, h.rb, h.log, h.wr, h.wreg, h.jc, h.jf, h.sc, h.skE, h.sfE, h.svE, h.stE, h.cc, h.cs⟩
theorem IX.s64 (h : IX G K M) (f : Nat → Int32) : IX G K (stI M 64 f) := ⟨h.hmE, h.hmR, h.rgE, h.rgR, h.LE, h.LR, h.atR, h.tapeC, h.dreg, h.dfl, h.dbank, h.dbp, h.dname, h.dhome, h.dacc, h.drc, h.da, h.db, h.dnm, h.dac, h.dhr, h.dqa, h.dqb, h.dpa, h.dpb, h.bank, h.rc, h.ra, h.rb, h.log, h.wr, h.wreg, h.jc, h.jf, h.sc, h.skE, h.sfE, h.svE, h.stE, h.cc, h.cs⟩
theorem IX.s66 (h : IX G K M) (f : Nat → Int32) : IX G K (stI M 66 f) := ⟨h.hmE, h.hmR, h.rgE, h.rgR, h.LE, h.LR, h.atR, h.tapeC, h.dreg, h.dfl, h.dbank, h.dbp, h.dname, h.dhome, h.dacc, h.drc, h.da, h.db, h.dnm, h.dac, h.dhr, h.dqa, h.dqb, h.dpa, h.dpb, h.bank, h.rc, h.ra, h.rb, h.log, h.wr, h.wreg, h.jc, h.jf, h.sc, h.skE, h.sfE, h.svE, h.stE, h.cc, h.cs⟩
theorem IX.s68 (h : IX G K M) (f : Nat → Int32) : IX G K (stI M 68 f) := ⟨h.hmE, h.hmR, h.rgE, h.rgR, h.LE, h.LR, h.atR, h.tapeC, h.dreg, h.dfl, h.dbank, h.dbp, h.dname, h.dhome, h.dacc, h.drc, h.da, h.db, h.dnm, h.dac, h.dhr, h.dqa, h.dqb, h.dpa, h.dpb, h.bank, h.rc, h.ra, h.rb, h.log, h.wr, h.wreg, h.jc, h.jf, h.sc, h.skE, h.sfE, h.svE, h.stE, h.cc, h.cs⟩
theorem IX.s23_1 (h : IX G K M) (x : Int32) : IX G K (stI M 23 (upd (M.1 23) 1 x)) := ⟨h.hmE, h.hmR, h.rgE, h.rgR, h.LE, h.LR, h.atR, h.tapeC, h.dreg, h.dfl, h.dbank, h.dbp, h.dname, h.dhome, h.dacc, h.drc, h.da, h.db, h.dnm, h.dac, h.dhr, h.dqa, h.dqb, h.dpa, h.dpb, h.bank, h.rc, h.ra, h.rb, h.log, h.wr, h.wreg, h.jc, h.jf, h.sc, h.skE, h.sfE, h.svE, h.stE, h.cc, h.cs⟩
theorem IX.s23_2 (h : IX G K M) (x : Int32) : IX G K (stI M 23 (upd (M.1 23) 2 x)) := ⟨h.hmE, h.hmR, h.rgE, h.rgR, h.LE, h.LR, h.atR, h.tapeC, h.dreg, h.dfl, h.dbank, h.dbp, h.dname, h.dhome, h.dacc, h.drc, h.da, h.db, h.dnm, h.dac, h.dhr, h.dqa, h.dqb, h.dpa, h.dpb, h.bank, h.rc, h.ra, h.rb, h.log, h.wr, h.wreg, h.jc, h.jf, h.sc, h.skE, h.sfE, h.svE, h.stE, h.cc, h.cs⟩
theorem IX.s50_3 (h : IX G K M) (x : Int32) : IX G K (stI M 50 (upd (M.1 50) 3 x)) := ⟨h.hmE, h.hmR, h.rgE, h.rgR, h.LE, h.LR, h.atR, h.tapeC, h.dreg, h.dfl, h.dbank, h.dbp, h.dname, h.dhome, h.dacc, h.drc, h.da, h.db, h.dnm, h.dac, h.dhr, h.dqa, h.dqb, h.dpa, h.dpb, h.bank, h.rc, h.ra, h.rb, h.log, h.wr, h.wreg, h.jc, h.jf, h.sc, h.skE, h.sfE, h.svE, h.stE, h.cc, h.cs⟩
theorem IX.s51_2 (h : IX G K M) (x : Int32) : IX G K (stI M 51 (upd (M.1 51) 2 x)) := ⟨h.hmE, h.hmR, h.rgE, h.rgR, h.LE, h.LR, h.atR, h.tapeC, h.dreg, h.dfl, h.dbank, h.dbp, h.dname, h.dhome, h.dacc, h.drc, h.da, h.db, h.dnm, h.dac, h.dhr, h.dqa, h.dqb, h.dpa, h.dpb, h.bank, h.rc, h.ra, h.rb, h.log, h.wr, h.wreg, h.jc, h.jf, h.sc, h.skE, h.sfE, h.svE, h.stE, h.cc, h.cs⟩
theorem IX.s61_2 (h : IX G K M) (x : Int32) : IX G K (stI M 61 (upd (M.1 61) 2 x)) := ⟨h.hmE, h.hmR, h.rgE, h.rgR, h.LE, h.LR, h.atR, h.tapeC, h.dreg, h.dfl, h.dbank, h.dbp, h.dname, h.dhome, h.dacc, h.drc, h.da, h.db, h.dnm, h.dac, h.dhr, h.dqa, h.dqb, h.dpa, h.dpb, h.bank, h.rc, h.ra, h.rb, h.log, h.wr, h.wreg, h.jc, h.jf, h.sc, h.skE, h.sfE, h.svE, h.stE, h.cc, h.cs⟩
theorem IX.s60_5 (h : IX G K M) (x : Int32) : IX G K (stI M 60 (upd (M.1 60) 5 x)) := ⟨h.hmE, h.hmR, h.rgE, h.rgR, h.LE, h.LR, h.atR, h.tapeC, h.dreg, h.dfl, h.dbank, h.dbp, h.dname, h.dhome, h.dacc, h.drc, h.da, h.db, h.dnm, h.dac, h.dhr, h.dqa, h.dqb, h.dpa, h.dpb, h.bank, h.rc, h.ra, h.rb, h.log, h.wr, h.wreg, h.jc, h.jf, h.sc, h.skE, h.sfE, h.svE, h.stE, h.cc, h.cs⟩
theorem IX.s73_7 (h : IX G K M) (x : Int32) : IX G K (stI M 73 (upd (M.1 73) 7 x)) := ⟨h.hmE, h.hmR, h.rgE, h.rgR, h.LE, h.LR, h.atR, h.tapeC, h.dreg, h.dfl, h.dbank, h.dbp, h.dname, h.dhome, h.dacc, h.drc, h.da, h.db, h.dnm, h.dac, h.dhr, h.dqa, h.dqb, h.dpa, h.dpb, h.bank, h.rc, h.ra, h.rb, h.log, h.wr, h.wreg, h.jc, h.jf, h.sc, h.skE, h.sfE, h.svE, h.stE, h.cc, h.cs⟩
theorem IX.s73_8 (h : IX G K M) (x : Int32) : IX G K (stI M 73 (upd (M.1 73) 8 x)) := ⟨h.hmE, h.hmR, h.rgE, h.rgR, h.LE, h.LR, h.atR, h.tapeC, h.dreg, h.dfl, h.dbank, h.dbp, h.dname, h.dhome, h.dacc, h.drc, h.da, h.db, h.dnm, h.dac, h.dhr, h.dqa, h.dqb, h.dpa, h.dpb, h.bank, h.rc, h.ra, h.rb, h.log, h.wr, h.wreg, h.jc, h.jf, h.sc, h.skE, h.sfE, h.svE, h.stE, h.cc, h.cs⟩
theorem IX.s73_9 (h : IX G K M) (x : Int32) : IX G K (stI M 73 (upd (M.1 73) 9 x)) := ⟨h.hmE, h.hmR, h.rgE, h.rgR, h.LE, h.LR, h.atR, h.tapeC, h.dreg, h.dfl, h.dbank, h.dbp, h.dname, h.dhome, h.dacc, h.drc, h.da, h.db, h.dnm, h.dac, h.dhr, h.dqa, h.dqb, h.dpa, h.dpb, h.bank, h.rc, h.ra, h.rb, h.log, h.wr, h.wreg, h.jc, h.jf, h.sc, h.skE, h.sfE, h.svE, h.stE, h.cc, h.cs⟩
theorem IX.j74 (h : IX G K M) (f : Nat → Int64) : IX G K (stJ M 74 f) := ⟨h.hmE, h.hmR, h.rgE, h.rgR, h.LE, h.LR, h.atR, h.tapeC, h.dreg, h.dfl, h.dbank, h.dbp, h.dname, h.dhome, h.dacc, h.drc, h.da, h.db, h.dnm, h.dac, h.dhr, h.dqa, h.dqb, h.dpa, h.dpb, h.bank, h.rc, h.ra, h.rb, h.log, h.wr, h.wreg, h.jc, h.jf, h.sc, h.skE, h.sfE, h.svE, h.stE, h.cc, h.cs⟩
theorem IX.j75 (h : IX G K M) (f : Nat → Int64) : IX G K (stJ M 75 f) := ⟨h.hmE, h.hmR, h.rgE, h.rgR, h.LE, h.LR, h.atR, h.tapeC, h.dreg, h.dfl, h.dbank, h.dbp, h.dname, h.dhome, h.dacc, h.drc, h.da, h.db, h.dnm, h.dac, h.dhr, h.dqa, h.dqb, h.dpa, h.dpb, h.bank, h.rc, h.ra, h.rb, h.log, h.wr, h.wreg, h.jc, h.jf, h.sc, h.skE, h.sfE, h.svE, h.stE, h.cc, h.cs⟩
theorem IX.s21_3 (h : IX G K M) {x : Int32} (hx : 0 ≤ x.toInt ∧ x.toInt ≤ 480) : IX G K (stI M 21 (upd (M.1 21) 3 x)) := ⟨h.hmE, h.hmR, h.rgE, h.rgR, h.LE, h.LR, hx, h.tapeC, h.dreg, h.dfl, h.dbank, h.dbp, h.dname, h.dhome, h.dacc, h.drc, h.da, h.db, h.dnm, h.dac, h.dhr, h.dqa, h.dqb, h.dpa, h.dpb, h.bank, h.rc, h.ra, h.rb, h.log, h.wr, h.wreg, h.jc, h.jf, h.sc, h.skE, h.sfE, h.svE, h.stE, h.cc, h.cs⟩
theorem IX.s60_2 (h : IX G K M) {x : Int32} (hx : 0 ≤ x.toInt ∧ x.toInt ≤ 16) : IX G K (stI M 60 (upd (M.1 60) 2 x)) := ⟨h.hmE, h.hmR, h.rgE, h.rgR, h.LE, h.LR, h.atR, h.tapeC, h.dreg, h.dfl, h.dbank, h.dbp, h.dname, h.dhome, h.dacc, h.drc, h.da, h.db, h.dnm, h.dac, h.dhr, h.dqa, h.dqb, h.dpa, h.dpb, h.bank, h.rc, h.ra, h.rb, h.log, hx, h.wreg, h.jc, h.jf, h.sc, h.skE, h.sfE, h.svE, h.stE, h.cc, h.cs⟩
theorem IX.s73_6 (h : IX G K M) {x : Int32} (hx : 0 ≤ x.toInt ∧ x.toInt ≤ 1000) : IX G K (stI M 73 (upd (M.1 73) 6 x)) := ⟨h.hmE, h.hmR, h.rgE, h.rgR, h.LE, h.LR, h.atR, h.tapeC, h.dreg, h.dfl, h.dbank, h.dbp, h.dname, h.dhome, h.dacc, h.drc, h.da, h.db, h.dnm, h.dac, h.dhr, h.dqa, h.dqb, h.dpa, h.dpb, h.bank, h.rc, h.ra, h.rb, h.log, h.wr, h.wreg, h.jc, h.jf, h.sc, h.skE, h.sfE, h.svE, h.stE, hx, h.cs⟩
theorem IX.s53_0 {K' : Int} (h : IX G K M) {x : Int32} (hx : 0 ≤ x.toInt ∧ x.toInt ≤ K') : IX G K' (stI M 53 (upd (M.1 53) 0 x)) := ⟨h.hmE, h.hmR, h.rgE, h.rgR, h.LE, h.LR, h.atR, h.tapeC, h.dreg, h.dfl, h.dbank, h.dbp, h.dname, h.dhome, h.dacc, h.drc, h.da, h.db, h.dnm, h.dac, h.dhr, h.dqa, h.dqb, h.dpa, h.dpb, h.bank, h.rc, h.ra, h.rb, hx, h.wr, h.wreg, h.jc, h.jf, h.sc, h.skE, h.sfE, h.svE, h.stE, h.cc, h.cs⟩
theorem IX.s65_0 (h : IX G K M) : IX G K (stI M 65 (upd (M.1 65) 0 0)) := ⟨h.hmE, h.hmR, h.rgE, h.rgR, h.LE, h.LR, h.atR, h.tapeC, h.dreg, h.dfl, h.dbank, h.dbp, h.dname, h.dhome, h.dacc, h.drc, h.da, h.db, h.dnm, h.dac, h.dhr, h.dqa, h.dqb, h.dpa, h.dpb, h.bank, h.rc, h.ra, h.rb, h.log, h.wr, h.wreg, ⟨Int.le_refl 0, (by decide : (0 : Int) ≤ 8)⟩, (fun j hj => absurd hj (by have e : (upd (M.1 65) 0 0 0).toInt = 0 := rfl; show ¬ ((j : Int) < (upd (M.1 65) 0 0 0).toInt); omega)), h.sc, h.skE, h.sfE, h.svE, h.stE, h.cc, h.cs⟩
theorem IX.s69_0 (h : IX G K M) : IX G K (stI M 69 (upd (M.1 69) 0 0)) := ⟨h.hmE, h.hmR, h.rgE, h.rgR, h.LE, h.LR, h.atR, h.tapeC, h.dreg, h.dfl, h.dbank, h.dbp, h.dname, h.dhome, h.dacc, h.drc, h.da, h.db, h.dnm, h.dac, h.dhr, h.dqa, h.dqb, h.dpa, h.dpb, h.bank, h.rc, h.ra, h.rb, h.log, h.wr, h.wreg, h.jc, h.jf, ⟨Int.le_refl 0, (by decide : (0 : Int) ≤ 40)⟩, h.skE, h.sfE, h.svE, (fun j hj => absurd hj (by have e : (upd (M.1 69) 0 0 0).toInt = 0 := rfl; show ¬ ((j : Int) < (upd (M.1 69) 0 0 0).toInt); omega)), h.cc, h.cs⟩
theorem IX.s4 (h : IX G K M) (i : Nat) {x : Int32} (hx : -1 ≤ x.toInt ∧ x.toInt ≤ 25) : IX G K (stI M 4 (upd (M.1 4) i x)) := ⟨h.hmE, h.hmR, h.rgE, h.rgR, h.LE, h.LR, h.atR, h.tapeC, h.dreg, h.dfl, (updR (P := fun z => -1 ≤ z.toInt ∧ z.toInt ≤ 25) h.dbank hx), h.dbp, h.dname, h.dhome, h.dacc, h.drc, h.da, h.db, h.dnm, h.dac, h.dhr, h.dqa, h.dqb, h.dpa, h.dpb, h.bank, h.rc, h.ra, h.rb, h.log, h.wr, h.wreg, h.jc, h.jf, h.sc, h.skE, h.sfE, h.svE, h.stE, h.cc, h.cs⟩
theorem IX.s63 (h : IX G K M) (i : Nat) {x : Int32} (hx : 0 ≤ x.toInt ∧ x.toInt ≤ 15) : IX G K (stI M 63 (upd (M.1 63) i x)) := ⟨h.hmE, h.hmR, h.rgE, h.rgR, h.LE, h.LR, h.atR, h.tapeC, h.dreg, h.dfl, h.dbank, h.dbp, h.dname, h.dhome, h.dacc, h.drc, h.da, h.db, h.dnm, h.dac, h.dhr, h.dqa, h.dqb, h.dpa, h.dpb, h.bank, h.rc, h.ra, h.rb, h.log, h.wr, (updR (P := fun z => 0 ≤ z.toInt ∧ z.toInt ≤ 15) h.wreg hx), h.jc, h.jf, h.sc, h.skE, h.sfE, h.svE, h.stE, h.cc, h.cs⟩
theorem IX.s76 (h : IX G K M) (i : Nat) {x : Int32} (hx : 0 ≤ x.toInt ∧ x.toInt ≤ 1000) : IX G K (stI M 76 (upd (M.1 76) i x)) := ⟨h.hmE, h.hmR, h.rgE, h.rgR, h.LE, h.LR, h.atR, h.tapeC, h.dreg, h.dfl, h.dbank, h.dbp, h.dname, h.dhome, h.dacc, h.drc, h.da, h.db, h.dnm, h.dac, h.dhr, h.dqa, h.dqb, h.dpa, h.dpb, h.bank, h.rc, h.ra, h.rb, h.log, h.wr, h.wreg, h.jc, h.jf, h.sc, h.skE, h.sfE, h.svE, h.stE, h.cc, (updR (P := fun z => 0 ≤ z.toInt ∧ z.toInt ≤ 1000) h.cs hx)⟩
theorem IX.s7 (h : IX G K M) {i : Nat} {x : Int32} (hx : -1 ≤ x.toInt ∧ x.toInt ≤ 25) (hi : (M.1 1 6).toInt ≤ (i : Int)) : IX G K (stI M 7 (upd (M.1 7) i x)) := ⟨h.hmE, h.hmR, h.rgE, h.rgR, h.LE, h.LR, h.atR, h.tapeC, h.dreg, h.dfl, h.dbank, h.dbp, (updR (P := fun z => -1 ≤ z.toInt ∧ z.toInt ≤ 25) h.dname hx), h.dhome, h.dacc, h.drc, h.da, h.db, (fun j hj => by have hne : j ≠ i := (by intro hc; subst hc; exact absurd hj (Int.not_lt.mpr hi)); show 0 ≤ (upd (M.1 7) i x j).toInt; rw [updN hne]; exact h.dnm j hj), h.dac, h.dhr, h.dqa, h.dqb, h.dpa, h.dpb, h.bank, h.rc, h.ra, h.rb, h.log, h.wr, h.wreg, h.jc, h.jf, h.sc, h.skE, h.sfE, h.svE, h.stE, h.cc, h.cs⟩
theorem IX.s9 (h : IX G K M) {i : Nat} {x : Int32} (hx : 0 ≤ x.toInt ∧ x.toInt ≤ 15) (hi : (M.1 1 6).toInt ≤ (i : Int)) : IX G K (stI M 9 (upd (M.1 9) i x)) := ⟨h.hmE, h.hmR, h.rgE, h.rgR, h.LE, h.LR, h.atR, h.tapeC, h.dreg, h.dfl, h.dbank, h.dbp, h.dname, (updR (P := fun z => 0 ≤ z.toInt ∧ z.toInt ≤ 15) h.dhome hx), h.dacc, h.drc, h.da, h.db, h.dnm, h.dac, (fun j hj => by have hne : j ≠ i := (by intro hc; subst hc; exact absurd hj (Int.not_lt.mpr hi)); show (upd (M.1 9) i x j).toInt ≤ (M.1 1 0).toInt; rw [updN hne]; exact h.dhr j hj), h.dqa, h.dqb, h.dpa, h.dpb, h.bank, h.rc, h.ra, h.rb, h.log, h.wr, h.wreg, h.jc, h.jf, h.sc, h.skE, h.sfE, h.svE, h.stE, h.cc, h.cs⟩
theorem IX.s10 (h : IX G K M) {i : Nat} {x : Int32} (hx : -1 ≤ x.toInt ∧ x.toInt ≤ 6) (hi : (M.1 1 6).toInt ≤ (i : Int)) : IX G K (stI M 10 (upd (M.1 10) i x)) := ⟨h.hmE, h.hmR, h.rgE, h.rgR, h.LE, h.LR, h.atR, h.tapeC, h.dreg, h.dfl, h.dbank, h.dbp, h.dname, h.dhome, (updR (P := fun z => -1 ≤ z.toInt ∧ z.toInt ≤ 6) h.dacc hx), h.drc, h.da, h.db, h.dnm, (fun j hj => by have hne : j ≠ i := (by intro hc; subst hc; exact absurd hj (Int.not_lt.mpr hi)); show 0 ≤ (upd (M.1 10) i x j).toInt; rw [updN hne]; exact h.dac j hj), h.dhr, h.dqa, h.dqb, h.dpa, h.dpb, h.bank, h.rc, h.ra, h.rb, h.log, h.wr, h.wreg, h.jc, h.jf, h.sc, h.skE, h.sfE, h.svE, h.stE, h.cc, h.cs⟩
theorem IX.s16 (h : IX G K M) {i : Nat} {x : Int32} (hx : -1 ≤ x.toInt ∧ x.toInt ≤ 25) (hi : (M.1 14 0).toInt ≤ (i : Int)) : IX G K (stI M 16 (upd (M.1 16) i x)) := ⟨h.hmE, h.hmR, h.rgE, h.rgR, h.LE, h.LR, h.atR, h.tapeC, h.dreg, h.dfl, h.dbank, h.dbp, h.dname, h.dhome, h.dacc, h.drc, (updR (P := fun z => -1 ≤ z.toInt ∧ z.toInt ≤ 25) h.da hx), h.db, h.dnm, h.dac, h.dhr, (fun j hj => by have hne : j ≠ i := (by intro hc; subst hc; exact absurd hj (Int.not_lt.mpr hi)); show 0 ≤ (upd (M.1 16) i x j).toInt; rw [updN hne]; exact h.dqa j hj), h.dqb, h.dpa, h.dpb, h.bank, h.rc, h.ra, h.rb, h.log, h.wr, h.wreg, h.jc, h.jf, h.sc, h.skE, h.sfE, h.svE, h.stE, h.cc, h.cs⟩
theorem IX.s17 (h : IX G K M) {i : Nat} {x : Int32} (hx : -1 ≤ x.toInt ∧ x.toInt ≤ 25) (hi : (M.1 14 0).toInt ≤ (i : Int)) : IX G K (stI M 17 (upd (M.1 17) i x)) := ⟨h.hmE, h.hmR, h.rgE, h.rgR, h.LE, h.LR, h.atR, h.tapeC, h.dreg, h.dfl, h.dbank, h.dbp, h.dname, h.dhome, h.dacc, h.drc, h.da, (updR (P := fun z => -1 ≤ z.toInt ∧ z.toInt ≤ 25) h.db hx), h.dnm, h.dac, h.dhr, h.dqa, (fun j hj => by have hne : j ≠ i := (by intro hc; subst hc; exact absurd hj (Int.not_lt.mpr hi)); show 0 ≤ (upd (M.1 17) i x j).toInt; rw [updN hne]; exact h.dqb j hj), h.dpa, h.dpb, h.bank, h.rc, h.ra, h.rb, h.log, h.wr, h.wreg, h.jc, h.jf, h.sc, h.skE, h.sfE, h.svE, h.stE, h.cc, h.cs⟩
theorem IX.s1_0 (h : IX G K M) {x : Int32} (hx : (M.1 1 0).toInt ≤ x.toInt ∧ x.toInt ≤ 16) : IX G K (stI M 1 (upd (M.1 1) 0 x)) := ⟨h.hmE, h.hmR, h.rgE, h.rgR, h.LE, h.LR, h.atR, h.tapeC, ⟨Int.le_trans h.dreg.1 hx.1, hx.2⟩, h.dfl, h.dbank, h.dbp, h.dname, h.dhome, h.dacc, h.drc, h.da, h.db, h.dnm, h.dac, (fun j hj => Int.le_trans (h.dhr j hj) hx.1), h.dqa, h.dqb, h.dpa, h.dpb, h.bank, h.rc, h.ra, h.rb, h.log, h.wr, h.wreg, h.jc, h.jf, h.sc, h.skE, h.sfE, h.svE, h.stE, h.cc, h.cs⟩
theorem IX.s1_6 (h : IX G K M) {v x : Int32} (hv : v.toInt = (M.1 1 6).toInt) (hx : x.toInt = v.toInt + 1) (hm : (M.1 1 6).toInt < 128) (hdnm : 0 ≤ (M.1 7 v.toNatClampNeg).toInt) (hdac : 0 ≤ (M.1 10 v.toNatClampNeg).toInt) (hdhr : (M.1 9 v.toNatClampNeg).toInt ≤ (M.1 1 0).toInt) : IX G K (stI M 1 (upd (M.1 1) 6 x)) := by
  have hv2 : v = M.1 1 6 := Int32.toInt_inj.mp hv
  subst hv2
  have z := h.dfl
  exact ⟨h.hmE, h.hmR, h.rgE, h.rgR, h.LE, h.LR, h.atR, h.tapeC, h.dreg, (by show 0 ≤ x.toInt ∧ x.toInt ≤ 128; omega), h.dbank, h.dbp, h.dname, h.dhome, h.dacc, h.drc, h.da, h.db, (fun j hj => by have hj : (j : Int) < x.toInt := hj; by_cases hc : (j : Int) < (M.1 1 6).toInt; exact h.dnm j hc; have ej : j = (M.1 1 6).toNatClampNeg := (by have := tnc h.dfl.1; omega); rw [ej]; exact hdnm), (fun j hj => by have hj : (j : Int) < x.toInt := hj; by_cases hc : (j : Int) < (M.1 1 6).toInt; exact h.dac j hc; have ej : j = (M.1 1 6).toNatClampNeg := (by have := tnc h.dfl.1; omega); rw [ej]; exact hdac), (fun j hj => by have hj : (j : Int) < x.toInt := hj; by_cases hc : (j : Int) < (M.1 1 6).toInt; exact h.dhr j hc; have ej : j = (M.1 1 6).toNatClampNeg := (by have := tnc h.dfl.1; omega); rw [ej]; exact hdhr), h.dqa, h.dqb, h.dpa, h.dpb, h.bank, h.rc, h.ra, h.rb, h.log, h.wr, h.wreg, h.jc, h.jf, h.sc, h.skE, h.sfE, h.svE, h.stE, h.cc, h.cs⟩
theorem IX.s14_0 (h : IX G K M) {v x : Int32} (hv : v.toInt = (M.1 14 0).toInt) (hx : x.toInt = v.toInt + 1) (hm : (M.1 14 0).toInt < 12) (hdqa : 0 ≤ (M.1 16 v.toNatClampNeg).toInt) (hdqb : 0 ≤ (M.1 17 v.toNatClampNeg).toInt) : IX G K (stI M 14 (upd (M.1 14) 0 x)) := by
  have hv2 : v = M.1 14 0 := Int32.toInt_inj.mp hv
  subst hv2
  have z := h.drc
  exact ⟨h.hmE, h.hmR, h.rgE, h.rgR, h.LE, h.LR, h.atR, h.tapeC, h.dreg, h.dfl, h.dbank, h.dbp, h.dname, h.dhome, h.dacc, (by show 0 ≤ x.toInt ∧ x.toInt ≤ 12; omega), h.da, h.db, h.dnm, h.dac, h.dhr, (fun j hj => by have hj : (j : Int) < x.toInt := hj; by_cases hc : (j : Int) < (M.1 14 0).toInt; exact h.dqa j hc; have ej : j = (M.1 14 0).toNatClampNeg := (by have := tnc h.drc.1; omega); rw [ej]; exact hdqa), (fun j hj => by have hj : (j : Int) < x.toInt := hj; by_cases hc : (j : Int) < (M.1 14 0).toInt; exact h.dqb j hc; have ej : j = (M.1 14 0).toNatClampNeg := (by have := tnc h.drc.1; omega); rw [ej]; exact hdqb), h.dpa, h.dpb, h.bank, h.rc, h.ra, h.rb, h.log, h.wr, h.wreg, h.jc, h.jf, h.sc, h.skE, h.sfE, h.svE, h.stE, h.cc, h.cs⟩
theorem IX.s5 (h : IX G K M) (i : Nat) {x : Int32} (hx : 0 ≤ x.toInt) : IX G K (stI M 5 (upd (M.1 5) i x)) := ⟨h.hmE, h.hmR, h.rgE, h.rgR, h.LE, h.LR, h.atR, h.tapeC, h.dreg, h.dfl, h.dbank, (updR (P := fun z => 0 ≤ z.toInt) h.dbp hx), h.dname, h.dhome, h.dacc, h.drc, h.da, h.db, h.dnm, h.dac, h.dhr, h.dqa, h.dqb, h.dpa, h.dpb, h.bank, h.rc, h.ra, h.rb, h.log, h.wr, h.wreg, h.jc, h.jf, h.sc, h.skE, h.sfE, h.svE, h.stE, h.cc, h.cs⟩
theorem IX.s19 (h : IX G K M) (i : Nat) {x : Int32} (hx : 0 ≤ x.toInt) : IX G K (stI M 19 (upd (M.1 19) i x)) := ⟨h.hmE, h.hmR, h.rgE, h.rgR, h.LE, h.LR, h.atR, h.tapeC, h.dreg, h.dfl, h.dbank, h.dbp, h.dname, h.dhome, h.dacc, h.drc, h.da, h.db, h.dnm, h.dac, h.dhr, h.dqa, h.dqb, (updR (P := fun z => 0 ≤ z.toInt) h.dpa hx), h.dpb, h.bank, h.rc, h.ra, h.rb, h.log, h.wr, h.wreg, h.jc, h.jf, h.sc, h.skE, h.sfE, h.svE, h.stE, h.cc, h.cs⟩
theorem IX.s20 (h : IX G K M) (i : Nat) {x : Int32} (hx : 0 ≤ x.toInt) : IX G K (stI M 20 (upd (M.1 20) i x)) := ⟨h.hmE, h.hmR, h.rgE, h.rgR, h.LE, h.LR, h.atR, h.tapeC, h.dreg, h.dfl, h.dbank, h.dbp, h.dname, h.dhome, h.dacc, h.drc, h.da, h.db, h.dnm, h.dac, h.dhr, h.dqa, h.dqb, h.dpa, (updR (P := fun z => 0 ≤ z.toInt) h.dpb hx), h.bank, h.rc, h.ra, h.rb, h.log, h.wr, h.wreg, h.jc, h.jf, h.sc, h.skE, h.sfE, h.svE, h.stE, h.cc, h.cs⟩
theorem IX.s76f (h : IX G K M) : IX G K (stI M 76 (fun _ => 0)) := ⟨h.hmE, h.hmR, h.rgE, h.rgR, h.LE, h.LR, h.atR, h.tapeC, h.dreg, h.dfl, h.dbank, h.dbp, h.dname, h.dhome, h.dacc, h.drc, h.da, h.db, h.dnm, h.dac, h.dhr, h.dqa, h.dqb, h.dpa, h.dpb, h.bank, h.rc, h.ra, h.rb, h.log, h.wr, h.wreg, h.jc, h.jf, h.sc, h.skE, h.sfE, h.svE, h.stE, h.cc, (fun _ => ⟨Int.le_refl 0, (by decide : (0 : Int) ≤ 1000)⟩)⟩
theorem IX.s22 (h : IX G K M) (i : Nat) {x : Int32} (hx : (x.toUInt32 % 65536).toInt32 = x) : IX G K (stI M 22 (upd (M.1 22) i x)) := ⟨h.hmE, h.hmR, h.rgE, h.rgR, h.LE, h.LR, h.atR, (updR (P := fun z => (z.toUInt32 % 65536).toInt32 = z) h.tapeC hx), h.dreg, h.dfl, h.dbank, h.dbp, h.dname, h.dhome, h.dacc, h.drc, h.da, h.db, h.dnm, h.dac, h.dhr, h.dqa, h.dqb, h.dpa, h.dpb, h.bank, h.rc, h.ra, h.rb, h.log, h.wr, h.wreg, h.jc, h.jf, h.sc, h.skE, h.sfE, h.svE, h.stE, h.cc, h.cs⟩
theorem IX.f38 (h : IX G K M) (i : Nat) : (M.1 38 i).toInt = (G.hm i).toInt ∧ -1 ≤ (G.hm i).toInt ∧ (G.hm i).toInt < G.rg ∧ G.rg ≤ 16 := ⟨by rw [h.hmE], (h.hmR i).1, (h.hmR i).2, h.rgR.2⟩
theorem IX.f24_0 (h : IX G K M) : (M.1 24 0).toInt = G.rg ∧ 0 ≤ G.rg ∧ G.rg ≤ 16 := ⟨h.rgE, h.rgR⟩
theorem IX.f21_2 (h : IX G K M) : (M.1 21 2).toInt = G.L.toInt ∧ 0 ≤ G.L.toInt ∧ G.L.toInt ≤ 480 := ⟨by rw [h.LE], h.LR⟩
theorem IX.f53 (h : IX G K M) : 0 ≤ (M.1 53 0).toInt ∧ (M.1 53 0).toInt ≤ K ∧ (M.1 53 0).toInt ≤ 2147483647 := ⟨h.log.1, h.log.2, Int32.toInt_le _⟩
theorem IX.f70 (h : IX G K M) (i : Nat) : (M.1 70 i).toInt = (G.sk i).toInt := by rw [h.skE]
theorem IX.f72 (h : IX G K M) (i : Nat) : (M.1 72 i).toInt = (G.sv i).toInt := by rw [h.svE]
theorem IX.mkF {x : Int32} (_ : IX G K M) (h0 : 0 ≤ x.toInt) (h1 : x.toInt ≤ 25) (h2 : 0 ≤ (G.hm x.toNatClampNeg).toInt) : HasF G.hm x := ⟨h0, h1, h2⟩
theorem IX.f26 {v : Int32} (h : IX G K M) (h0 : 0 ≤ v.toInt) (h1 : v.toInt < G.rg) (h2 : (M.1 26 v.toNatClampNeg).toInt ≠ -1) : HasF G.hm (M.1 26 v.toNatClampNeg) := by
  rcases h.bank v.toNatClampNeg (by rw [tnc h0]; exact h1) with h3 | h3
  · exact absurd h3 h2
  · exact h3
theorem IX.f45 {v : Int32} (h : IX G K M) (h0 : 0 ≤ v.toInt) (h1 : v.toInt < (M.1 43 0).toInt) : 0 ≤ (M.1 45 v.toNatClampNeg).toInt ∧ (M.1 45 v.toNatClampNeg).toInt ≤ 25 := h.ra _ (by rw [tnc h0]; exact h1)
theorem IX.f46 {v : Int32} (h : IX G K M) (h0 : 0 ≤ v.toInt) (h1 : v.toInt < (M.1 43 0).toInt) : HasF G.hm (M.1 46 v.toNatClampNeg) := h.rb _ (by rw [tnc h0]; exact h1)
theorem IX.f67 {v : Int32} (h : IX G K M) (h0 : 0 ≤ v.toInt) (h1 : v.toInt < (M.1 65 0).toInt) : HasF G.hm (M.1 67 v.toNatClampNeg) := h.jf _ (by rw [tnc h0]; exact h1)
theorem IX.st2 {v : Int32} (h : IX G K M) (h0 : 0 ≤ v.toInt) (h1 : v.toInt < (M.1 69 0).toInt) : (G.sk v.toNatClampNeg).toInt = 2 → 0 ≤ (G.sv v.toNatClampNeg).toInt ∧ (G.sv v.toNatClampNeg).toInt ≤ 40 := by
  intro hk
  rcases h.stE v.toNatClampNeg (by rw [tnc h0]; exact h1) with h3 | h3 | h3
  · omega
  · exact h3.2
  · omega
theorem IX.stF {v : Int32} (h : IX G K M) (h0 : 0 ≤ v.toInt) (h1 : v.toInt < (M.1 69 0).toInt) (h2 : (G.sk v.toNatClampNeg).toInt ≠ 3) (h4 : (G.sk v.toNatClampNeg).toInt ≠ 2) : HasF G.hm (G.sf v.toNatClampNeg) := by
  rcases h.stE v.toNatClampNeg (by rw [tnc h0]; exact h1) with h3 | h3 | h3
  · exact absurd h3 h2
  · exact absurd h3.1 h4
  · exact h3.2
theorem IX.stG {v : Int32} (h : IX G K M) (hf : HasF G.hm (G.sf v.toNatClampNeg)) : HasF G.hm (M.1 71 v.toNatClampNeg) := by rw [h.sfE]; exact hf
end IXS
def frB (M N : Mm) : Prop := ∀ p, p ≠ 21 → N.1 p = M.1 p
theorem frB.rf (M : Mm) : frB M M := fun _ _ => rfl
theorem frB.tr {A B C : Mm} (h : frB A B) (g : frB B C) : frB A C := fun p hp => (g p hp).trans (h p hp)
theorem frB.s21_3 {A B : Mm} {x : Int32} (h : frB A B) : frB A (stI B 21 (upd (B.1 21) 3 x)) := fun p hp => (stI_ne B _ hp).trans (h p hp)
def DS (M : Mm) : Prop := ∀ j : Nat, (j : Int) < (M.1 1 6).toInt → (M.1 9 j).toInt < (M.1 1 0).toInt
theorem DS.of {A B : Mm} (h1 : B.1 1 = A.1 1) (h9 : B.1 9 = A.1 9) (h : DS A) : DS B := by
  intro j hj
  rw [h1, h9]
  rw [h1] at hj
  exact h j hj
theorem DS.up {G : Gx} {K : Int} {A B : Mm} {x : Int32} (hI : IX G K A) (h1 : B = stI A 1 (upd (A.1 1) 0 x)) (hx : (A.1 1 0).toInt < x.toInt) : DS B := by
  intro j hj
  subst h1
  have hj : (j : Int) < (A.1 1 6).toInt := hj
  show (A.1 9 j).toInt < x.toInt
  have := hI.dhr j hj
  omega

theorem w_StringLatin1_indexOfChar_7 {M : Mm} : ∀ (n' : Nat) (v3 v4 v5 : Int32), (0 ≤ v5.toInt ∧ v5.toInt ≤ v3.toInt ∧ v3.toInt ≤ 7) → v3.toInt - v5.toInt < (n' : Int) → wpR (q_StringLatin1_indexOfChar_7 n' M v3 v4 v5) (fun M' r => M = M' ∧ (-1 ≤ r.toInt ∧ r.toInt < 7) ∧ (0 ≤ r.toInt → sB 0 r.toNatClampNeg = v4)) := by
  intro n'
  induction n' with
  | zero =>
    intro v3 v4 v5 p0 hn
    exfalso; omega
  | succ n' ih =>
    intro v3 v4 v5 p0 hn
    rw [q_StringLatin1_indexOfChar_7]
    refine wpR_le (x := v3.toInt) (y := v5.toInt) rfl rfl (fun c => ?_) (fun c => ?_)
    · exact wpR_some ⟨rfl, by decide, fun h => absurd h (by decide)⟩
    · refine wpR_ix (vI (by omega)) ?_
      refine wpR_if (fun c2 => ?_) (fun c2 => ?_)
      · exact wpR_some ⟨rfl, by omega, fun _ => c2⟩
      · have z : (v5 + 1).toInt = v5.toInt + 1 := iadd rfl (rfl : (1 : Int32).toInt = 1) (by omega) (by omega)
        exact ih v3 v4 (v5 + 1) (by omega) (by omega)
theorem sB0_nz : ∀ k : Nat, k < 7 → sB 0 k ≠ 0 := by decide

theorem w_StringLatin1_indexOf {M : Mm} (a1 : Int32) : wpR (q_StringLatin1_indexOf M a1 0 7) (fun M' r => M = M' ∧ (-1 ≤ r.toInt ∧ r.toInt ≤ 6 ∧ (0 ≤ r.toInt → a1.toInt ≠ 0))) := by
  unfold q_StringLatin1_indexOf
  refine wpR_ro (M := M) (P := fun _ => True) ?_ (fun r _ => ?_)
  · unfold q_StringLatin1_canEncode
    refine wpR_if (fun _ => wpR_some ⟨rfl, trivial⟩) (fun _ => ?_)
    refine wpR_if (fun _ => wpR_some ⟨rfl, trivial⟩) (fun _ => wpR_some ⟨rfl, trivial⟩)
  refine wpR_if (fun _ => wpR_some ⟨rfl, by decide, by decide, fun h => absurd h (by decide)⟩) (fun _ => ?_)
  refine wpR_lt (wpR_lt ?_)
  refine wpR_if (fun _ => ?_) (fun _ => wpR_some ⟨rfl, by decide, by decide, fun h => absurd h (by decide)⟩)
  refine wpR_ro (M := M) (P := fun r => (-1 ≤ r.toInt ∧ r.toInt < 7) ∧ (0 ≤ r.toInt → sB 0 r.toNatClampNeg = a1.toInt8.toInt32)) ?_ (fun r h => ?_)
  · unfold q_StringLatin1_indexOfChar
    exact wpR_lt (w_StringLatin1_indexOfChar_7 4000 7 _ 0 (by decide) (by decide))
  · refine wpR_some ⟨rfl, by omega, by omega, fun h0 hz => ?_⟩
    have e0 : a1 = 0 := Int32.toInt_inj.mp (by rw [hz]; rfl)
    have e1 : r.toNatClampNeg = r.toInt.toNat := rfl
    refine sB0_nz r.toNatClampNeg (by omega) ?_
    rw [h.2 h0, e0]
    decide
theorem w_String_indexOf {G : Gx} {K : Int} {M : Mm} (_ : IX G K M) (a1 : Int32) : wpR (q_String_indexOf M a1) (fun M' r => M = M' ∧ (-1 ≤ r.toInt ∧ r.toInt ≤ 6 ∧ (0 ≤ r.toInt → a1.toInt ≠ 0))) := by
  unfold q_String_indexOf
  refine wpR_ro (M := M) (P := fun r => -1 ≤ r.toInt ∧ r.toInt ≤ 6 ∧ (0 ≤ r.toInt → a1.toInt ≠ 0)) ?_ (fun r h => wpR_some ⟨rfl, h⟩)
  unfold q_String_indexOf_1
  show wpR (cal (some (M, 1)) _) _
  refine wpR_cal (wpR_some ?_)
  refine wpR_if (fun h => absurd h (by decide)) (fun _ => ?_)
  have e : q_String_length M = some (M, 7) := by
    have e2 : ((7 : Int32) >>> ((0 : Int32) &&& 31)) = 7 := by decide
    show (some (M, ((7 : Int32) >>> ((0 : Int32) &&& 31))) : Rs) = some (M, 7)
    rw [e2]
  rw [e]
  refine wpR_cal (wpR_some ?_)
  exact wpR_ro (w_StringLatin1_indexOf a1) (fun r h => wpR_some ⟨rfl, h⟩)

theorem w_StringLatin1_indexOfChar_1_7 {M : Mm} : ∀ (n' : Nat) (v3 v4 v5 : Int32), (0 ≤ v5.toInt ∧ v5.toInt ≤ v3.toInt ∧ v3.toInt ≤ 3) → v3.toInt - v5.toInt < (n' : Int) → wpR (q_StringLatin1_indexOfChar_1_7 n' M v3 v4 v5) (fun M' r => M = M' ∧ (-1 ≤ r.toInt ∧ r.toInt < 3) ∧ (0 ≤ r.toInt → sB 1 r.toNatClampNeg = v4)) := by
  intro n'
  induction n' with
  | zero =>
    intro v3 v4 v5 p0 hn
    exfalso; omega
  | succ n' ih =>
    intro v3 v4 v5 p0 hn
    rw [q_StringLatin1_indexOfChar_1_7]
    refine wpR_le (x := v3.toInt) (y := v5.toInt) rfl rfl (fun c => ?_) (fun c => ?_)
    · exact wpR_some ⟨rfl, by decide, fun h => absurd h (by decide)⟩
    · refine wpR_ix (vI (by omega)) ?_
      refine wpR_if (fun c2 => ?_) (fun c2 => ?_)
      · exact wpR_some ⟨rfl, by omega, fun _ => c2⟩
      · have z : (v5 + 1).toInt = v5.toInt + 1 := iadd rfl (rfl : (1 : Int32).toInt = 1) (by omega) (by omega)
        exact ih v3 v4 (v5 + 1) (by omega) (by omega)
theorem sB1_nz : ∀ k : Nat, k < 3 → sB 1 k ≠ 0 := by decide

theorem w_StringLatin1_indexOf_1 {M : Mm} (a1 : Int32) : wpR (q_StringLatin1_indexOf_1 M a1 0 3) (fun M' r => M = M' ∧ (-1 ≤ r.toInt ∧ r.toInt ≤ 6 ∧ (0 ≤ r.toInt → a1.toInt ≠ 0))) := by
  unfold q_StringLatin1_indexOf_1
  refine wpR_ro (M := M) (P := fun _ => True) ?_ (fun r _ => ?_)
  · unfold q_StringLatin1_canEncode
    refine wpR_if (fun _ => wpR_some ⟨rfl, trivial⟩) (fun _ => ?_)
    refine wpR_if (fun _ => wpR_some ⟨rfl, trivial⟩) (fun _ => wpR_some ⟨rfl, trivial⟩)
  refine wpR_if (fun _ => wpR_some ⟨rfl, by decide, by decide, fun h => absurd h (by decide)⟩) (fun _ => ?_)
  refine wpR_lt (wpR_lt ?_)
  refine wpR_if (fun _ => ?_) (fun _ => wpR_some ⟨rfl, by decide, by decide, fun h => absurd h (by decide)⟩)
  refine wpR_ro (M := M) (P := fun r => (-1 ≤ r.toInt ∧ r.toInt < 3) ∧ (0 ≤ r.toInt → sB 1 r.toNatClampNeg = a1.toInt8.toInt32)) ?_ (fun r h => ?_)
  · unfold q_StringLatin1_indexOfChar_1
    exact wpR_lt (w_StringLatin1_indexOfChar_1_7 4000 3 _ 0 (by decide) (by decide))
  · refine wpR_some ⟨rfl, by omega, by omega, fun h0 hz => ?_⟩
    have e0 : a1 = 0 := Int32.toInt_inj.mp (by rw [hz]; rfl)
    have e1 : r.toNatClampNeg = r.toInt.toNat := rfl
    refine sB1_nz r.toNatClampNeg (by omega) ?_
    rw [h.2 h0, e0]
    decide
theorem w_String_indexOf_2 {G : Gx} {K : Int} {M : Mm} (_ : IX G K M) (a1 : Int32) : wpR (q_String_indexOf_2 M a1) (fun M' r => M = M' ∧ (-1 ≤ r.toInt ∧ r.toInt ≤ 6 ∧ (0 ≤ r.toInt → a1.toInt ≠ 0))) := by
  unfold q_String_indexOf_2
  refine wpR_ro (M := M) (P := fun r => -1 ≤ r.toInt ∧ r.toInt ≤ 6 ∧ (0 ≤ r.toInt → a1.toInt ≠ 0)) ?_ (fun r h => wpR_some ⟨rfl, h⟩)
  unfold q_String_indexOf_3
  show wpR (cal (some (M, 1)) _) _
  refine wpR_cal (wpR_some ?_)
  refine wpR_if (fun h => absurd h (by decide)) (fun _ => ?_)
  have e : q_String_length_1 M = some (M, 3) := by
    have e2 : ((3 : Int32) >>> ((0 : Int32) &&& 31)) = 3 := by decide
    show (some (M, ((3 : Int32) >>> ((0 : Int32) &&& 31))) : Rs) = some (M, 3)
    rw [e2]
  rw [e]
  refine wpR_cal (wpR_some ?_)
  exact wpR_ro (w_StringLatin1_indexOf_1 a1) (fun r h => wpR_some ⟨rfl, h⟩)
theorem IX.join {G : Gx} {K : Int} {M : Mm} {a2 : Int32} (h : IX G K M) (hc : (M.1 65 0).toInt < 8) (hf : HasF G.hm a2) (f66 f68 : Nat → Int32) : IX G K (stI (stI (stI (stI M 66 f66) 67 (upd (M.1 67) (M.1 65 0).toNatClampNeg a2)) 68 f68) 65 (upd (M.1 65) 0 (M.1 65 0 + 1))) := by
  have z := h.jc
  have e : (M.1 65 0 + 1).toInt = (M.1 65 0).toInt + 1 := iadd rfl (rfl : (1 : Int32).toInt = 1) (by omega) (by omega)
  have t := tnc z.1
  exact ⟨h.hmE, h.hmR, h.rgE, h.rgR, h.LE, h.LR, h.atR, h.tapeC, h.dreg, h.dfl, h.dbank, h.dbp, h.dname, h.dhome, h.dacc, h.drc, h.da, h.db, h.dnm, h.dac, h.dhr, h.dqa, h.dqb, h.dpa, h.dpb, h.bank, h.rc, h.ra, h.rb, h.log, h.wr, h.wreg, (by show 0 ≤ (M.1 65 0 + 1).toInt ∧ (M.1 65 0 + 1).toInt ≤ 8; omega), (fun j hj => by have hj : (j : Int) < (M.1 65 0 + 1).toInt := hj; show HasF G.hm (upd (M.1 67) (M.1 65 0).toNatClampNeg a2 j); by_cases hne : j = (M.1 65 0).toNatClampNeg; (rw [hne, updS]; exact hf); (rw [updN hne]; exact h.jf j (by omega))), h.sc, h.skE, h.sfE, h.svE, h.stE, h.cc, h.cs⟩
theorem w_Steps_append {G : Gx} {K : Int} {M : Mm} (hI : IX G K M) (a1 a2 a3 : Int32) (p0 : (M.1 65 0).toInt < 8) (p1 : HasF G.hm a2) : wpR (q_Steps_append M a1 a2 a3) (fun M' r => IX G K M' ∧ True) := by
  unfold q_Steps_append
  have z := hI.jc
  have k : vp_in (M.1 65 0) 8 := vI (by omega)
  refine wpR_ix k (wpR_lt (wpR_ix k (wpR_lt (wpR_ix k (wpR_lt (wpR_lt (wpR_some ⟨?_, trivial⟩)))))))
  exact hI.join p0 p1 _ _
