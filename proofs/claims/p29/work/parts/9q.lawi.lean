/-! what a turn of the law collects: quotes and links -/
theorem sw_set_zi {ws : va_W} {ad y : Nat → Nat} {nw : Nat} {n : Nat} {nc : Nat} {qn : Nat} {fq : Nat} {mc1 : Int32} {mc2 : Int32} {aita : Nat} {acta : Nat} {qe : Nat → Option Nat} {cents : Nat → Nat} {grams : Nat → Nat} {cf : Nat → Bool} {cc : Nat → Nat} {fx : Nat → Bool} {lc : Nat → Nat} {lg : Nat → Nat} {told : Nat → Nat} {adp : Nat → Nat} {shr : Nat → UInt64} {pr : Nat → UInt64} {rel : Nat → UInt64} {grp : Nat → UInt64} {idx : Nat → UInt64} {num : Nat → Nat} {zi : Nat → Nat} {zc : Nat → Nat} {zg : Nat → Nat} {zf : Nat → Nat} {zn : Nat → Nat} {zl : Nat → Nat} {zr : Nat → Nat} {ze : Nat → Nat} {zt : Nat → Nat} {za : Nat → Nat} {zw : Nat → Nat} {zq : Nat → Nat} {G : Nat → Nat} {M : Nat → Nat} {Sn : Nat → Nat} {fw : Nat → Nat} {lag : Nat → Nat} {trig : Nat → Nat} {fl : Nat → Bool} {fm : Nat → Nat} {cs : Nat → Nat × Nat × Nat × Nat} {pi : Nat} {pc : Nat} {z9 : Nat → Nat} (h : SW ad y nw n nc qn fq mc1 mc2 aita acta qe cents grams cf cc fx lc lg told adp shr pr rel grp idx num zi zc zg zf zn zl zr ze zt za zw zq G M Sn fw lag trig fl fm cs pi pc ws) : SW ad y nw n nc qn fq mc1 mc2 aita acta qe cents grams cf cc fx lc lg told adp shr pr rel grp idx num z9 zc zg zf zn zl zr ze zt za zw zq G M Sn fw lag trig fl fm cs pi pc (ws.set 30 (ad 30, eN y 12 z9)) := by
  obtain ⟨xa, wf2, xb, pr2, rel2, grp2, idx2, cnum, rest, rfl, hz9, hcn9, hI, hC, hne⟩ := h
  exact ⟨xa, wf2, xb, pr2, rel2, grp2, idx2, cnum, rest, rfl, hz9, hcn9, hI, hC, hne⟩
theorem sw_set_zc {ws : va_W} {ad y : Nat → Nat} {nw : Nat} {n : Nat} {nc : Nat} {qn : Nat} {fq : Nat} {mc1 : Int32} {mc2 : Int32} {aita : Nat} {acta : Nat} {qe : Nat → Option Nat} {cents : Nat → Nat} {grams : Nat → Nat} {cf : Nat → Bool} {cc : Nat → Nat} {fx : Nat → Bool} {lc : Nat → Nat} {lg : Nat → Nat} {told : Nat → Nat} {adp : Nat → Nat} {shr : Nat → UInt64} {pr : Nat → UInt64} {rel : Nat → UInt64} {grp : Nat → UInt64} {idx : Nat → UInt64} {num : Nat → Nat} {zi : Nat → Nat} {zc : Nat → Nat} {zg : Nat → Nat} {zf : Nat → Nat} {zn : Nat → Nat} {zl : Nat → Nat} {zr : Nat → Nat} {ze : Nat → Nat} {zt : Nat → Nat} {za : Nat → Nat} {zw : Nat → Nat} {zq : Nat → Nat} {G : Nat → Nat} {M : Nat → Nat} {Sn : Nat → Nat} {fw : Nat → Nat} {lag : Nat → Nat} {trig : Nat → Nat} {fl : Nat → Bool} {fm : Nat → Nat} {cs : Nat → Nat × Nat × Nat × Nat} {pi : Nat} {pc : Nat} {z9 : Nat → Nat} (h : SW ad y nw n nc qn fq mc1 mc2 aita acta qe cents grams cf cc fx lc lg told adp shr pr rel grp idx num zi zc zg zf zn zl zr ze zt za zw zq G M Sn fw lag trig fl fm cs pi pc ws) : SW ad y nw n nc qn fq mc1 mc2 aita acta qe cents grams cf cc fx lc lg told adp shr pr rel grp idx num zi z9 zg zf zn zl zr ze zt za zw zq G M Sn fw lag trig fl fm cs pi pc (ws.set 31 (ad 31, eN y 60 z9)) := by
  obtain ⟨xa, wf2, xb, pr2, rel2, grp2, idx2, cnum, rest, rfl, hz9, hcn9, hI, hC, hne⟩ := h
  exact ⟨xa, wf2, xb, pr2, rel2, grp2, idx2, cnum, rest, rfl, hz9, hcn9, hI, hC, hne⟩
theorem sw_set_zg {ws : va_W} {ad y : Nat → Nat} {nw : Nat} {n : Nat} {nc : Nat} {qn : Nat} {fq : Nat} {mc1 : Int32} {mc2 : Int32} {aita : Nat} {acta : Nat} {qe : Nat → Option Nat} {cents : Nat → Nat} {grams : Nat → Nat} {cf : Nat → Bool} {cc : Nat → Nat} {fx : Nat → Bool} {lc : Nat → Nat} {lg : Nat → Nat} {told : Nat → Nat} {adp : Nat → Nat} {shr : Nat → UInt64} {pr : Nat → UInt64} {rel : Nat → UInt64} {grp : Nat → UInt64} {idx : Nat → UInt64} {num : Nat → Nat} {zi : Nat → Nat} {zc : Nat → Nat} {zg : Nat → Nat} {zf : Nat → Nat} {zn : Nat → Nat} {zl : Nat → Nat} {zr : Nat → Nat} {ze : Nat → Nat} {zt : Nat → Nat} {za : Nat → Nat} {zw : Nat → Nat} {zq : Nat → Nat} {G : Nat → Nat} {M : Nat → Nat} {Sn : Nat → Nat} {fw : Nat → Nat} {lag : Nat → Nat} {trig : Nat → Nat} {fl : Nat → Bool} {fm : Nat → Nat} {cs : Nat → Nat × Nat × Nat × Nat} {pi : Nat} {pc : Nat} {z9 : Nat → Nat} (h : SW ad y nw n nc qn fq mc1 mc2 aita acta qe cents grams cf cc fx lc lg told adp shr pr rel grp idx num zi zc zg zf zn zl zr ze zt za zw zq G M Sn fw lag trig fl fm cs pi pc ws) : SW ad y nw n nc qn fq mc1 mc2 aita acta qe cents grams cf cc fx lc lg told adp shr pr rel grp idx num zi zc z9 zf zn zl zr ze zt za zw zq G M Sn fw lag trig fl fm cs pi pc (ws.set 32 (ad 32, eN y 60 z9)) := by
  obtain ⟨xa, wf2, xb, pr2, rel2, grp2, idx2, cnum, rest, rfl, hz9, hcn9, hI, hC, hne⟩ := h
  exact ⟨xa, wf2, xb, pr2, rel2, grp2, idx2, cnum, rest, rfl, hz9, hcn9, hI, hC, hne⟩
theorem sw_set_zf {ws : va_W} {ad y : Nat → Nat} {nw : Nat} {n : Nat} {nc : Nat} {qn : Nat} {fq : Nat} {mc1 : Int32} {mc2 : Int32} {aita : Nat} {acta : Nat} {qe : Nat → Option Nat} {cents : Nat → Nat} {grams : Nat → Nat} {cf : Nat → Bool} {cc : Nat → Nat} {fx : Nat → Bool} {lc : Nat → Nat} {lg : Nat → Nat} {told : Nat → Nat} {adp : Nat → Nat} {shr : Nat → UInt64} {pr : Nat → UInt64} {rel : Nat → UInt64} {grp : Nat → UInt64} {idx : Nat → UInt64} {num : Nat → Nat} {zi : Nat → Nat} {zc : Nat → Nat} {zg : Nat → Nat} {zf : Nat → Nat} {zn : Nat → Nat} {zl : Nat → Nat} {zr : Nat → Nat} {ze : Nat → Nat} {zt : Nat → Nat} {za : Nat → Nat} {zw : Nat → Nat} {zq : Nat → Nat} {G : Nat → Nat} {M : Nat → Nat} {Sn : Nat → Nat} {fw : Nat → Nat} {lag : Nat → Nat} {trig : Nat → Nat} {fl : Nat → Bool} {fm : Nat → Nat} {cs : Nat → Nat × Nat × Nat × Nat} {pi : Nat} {pc : Nat} {z9 : Nat → Nat} (h : SW ad y nw n nc qn fq mc1 mc2 aita acta qe cents grams cf cc fx lc lg told adp shr pr rel grp idx num zi zc zg zf zn zl zr ze zt za zw zq G M Sn fw lag trig fl fm cs pi pc ws) : SW ad y nw n nc qn fq mc1 mc2 aita acta qe cents grams cf cc fx lc lg told adp shr pr rel grp idx num zi zc zg z9 zn zl zr ze zt za zw zq G M Sn fw lag trig fl fm cs pi pc (ws.set 33 (ad 33, eN y 60 z9)) := by
  obtain ⟨xa, wf2, xb, pr2, rel2, grp2, idx2, cnum, rest, rfl, hz9, hcn9, hI, hC, hne⟩ := h
  exact ⟨xa, wf2, xb, pr2, rel2, grp2, idx2, cnum, rest, rfl, hz9, hcn9, hI, hC, hne⟩
theorem sw_set_zn {ws : va_W} {ad y : Nat → Nat} {nw : Nat} {n : Nat} {nc : Nat} {qn : Nat} {fq : Nat} {mc1 : Int32} {mc2 : Int32} {aita : Nat} {acta : Nat} {qe : Nat → Option Nat} {cents : Nat → Nat} {grams : Nat → Nat} {cf : Nat → Bool} {cc : Nat → Nat} {fx : Nat → Bool} {lc : Nat → Nat} {lg : Nat → Nat} {told : Nat → Nat} {adp : Nat → Nat} {shr : Nat → UInt64} {pr : Nat → UInt64} {rel : Nat → UInt64} {grp : Nat → UInt64} {idx : Nat → UInt64} {num : Nat → Nat} {zi : Nat → Nat} {zc : Nat → Nat} {zg : Nat → Nat} {zf : Nat → Nat} {zn : Nat → Nat} {zl : Nat → Nat} {zr : Nat → Nat} {ze : Nat → Nat} {zt : Nat → Nat} {za : Nat → Nat} {zw : Nat → Nat} {zq : Nat → Nat} {G : Nat → Nat} {M : Nat → Nat} {Sn : Nat → Nat} {fw : Nat → Nat} {lag : Nat → Nat} {trig : Nat → Nat} {fl : Nat → Bool} {fm : Nat → Nat} {cs : Nat → Nat × Nat × Nat × Nat} {pi : Nat} {pc : Nat} {z9 : Nat → Nat} (h : SW ad y nw n nc qn fq mc1 mc2 aita acta qe cents grams cf cc fx lc lg told adp shr pr rel grp idx num zi zc zg zf zn zl zr ze zt za zw zq G M Sn fw lag trig fl fm cs pi pc ws) : SW ad y nw n nc qn fq mc1 mc2 aita acta qe cents grams cf cc fx lc lg told adp shr pr rel grp idx num zi zc zg zf z9 zl zr ze zt za zw zq G M Sn fw lag trig fl fm cs pi pc (ws.set 34 (ad 34, eN y 60 z9)) := by
  obtain ⟨xa, wf2, xb, pr2, rel2, grp2, idx2, cnum, rest, rfl, hz9, hcn9, hI, hC, hne⟩ := h
  exact ⟨xa, wf2, xb, pr2, rel2, grp2, idx2, cnum, rest, rfl, hz9, hcn9, hI, hC, hne⟩
theorem sw_set_zl {ws : va_W} {ad y : Nat → Nat} {nw : Nat} {n : Nat} {nc : Nat} {qn : Nat} {fq : Nat} {mc1 : Int32} {mc2 : Int32} {aita : Nat} {acta : Nat} {qe : Nat → Option Nat} {cents : Nat → Nat} {grams : Nat → Nat} {cf : Nat → Bool} {cc : Nat → Nat} {fx : Nat → Bool} {lc : Nat → Nat} {lg : Nat → Nat} {told : Nat → Nat} {adp : Nat → Nat} {shr : Nat → UInt64} {pr : Nat → UInt64} {rel : Nat → UInt64} {grp : Nat → UInt64} {idx : Nat → UInt64} {num : Nat → Nat} {zi : Nat → Nat} {zc : Nat → Nat} {zg : Nat → Nat} {zf : Nat → Nat} {zn : Nat → Nat} {zl : Nat → Nat} {zr : Nat → Nat} {ze : Nat → Nat} {zt : Nat → Nat} {za : Nat → Nat} {zw : Nat → Nat} {zq : Nat → Nat} {G : Nat → Nat} {M : Nat → Nat} {Sn : Nat → Nat} {fw : Nat → Nat} {lag : Nat → Nat} {trig : Nat → Nat} {fl : Nat → Bool} {fm : Nat → Nat} {cs : Nat → Nat × Nat × Nat × Nat} {pi : Nat} {pc : Nat} {z9 : Nat → Nat} (h : SW ad y nw n nc qn fq mc1 mc2 aita acta qe cents grams cf cc fx lc lg told adp shr pr rel grp idx num zi zc zg zf zn zl zr ze zt za zw zq G M Sn fw lag trig fl fm cs pi pc ws) : SW ad y nw n nc qn fq mc1 mc2 aita acta qe cents grams cf cc fx lc lg told adp shr pr rel grp idx num zi zc zg zf zn z9 zr ze zt za zw zq G M Sn fw lag trig fl fm cs pi pc (ws.set 35 (ad 35, eN y 60 z9)) := by
  obtain ⟨xa, wf2, xb, pr2, rel2, grp2, idx2, cnum, rest, rfl, hz9, hcn9, hI, hC, hne⟩ := h
  exact ⟨xa, wf2, xb, pr2, rel2, grp2, idx2, cnum, rest, rfl, hz9, hcn9, hI, hC, hne⟩
theorem sw_set_zr {ws : va_W} {ad y : Nat → Nat} {nw : Nat} {n : Nat} {nc : Nat} {qn : Nat} {fq : Nat} {mc1 : Int32} {mc2 : Int32} {aita : Nat} {acta : Nat} {qe : Nat → Option Nat} {cents : Nat → Nat} {grams : Nat → Nat} {cf : Nat → Bool} {cc : Nat → Nat} {fx : Nat → Bool} {lc : Nat → Nat} {lg : Nat → Nat} {told : Nat → Nat} {adp : Nat → Nat} {shr : Nat → UInt64} {pr : Nat → UInt64} {rel : Nat → UInt64} {grp : Nat → UInt64} {idx : Nat → UInt64} {num : Nat → Nat} {zi : Nat → Nat} {zc : Nat → Nat} {zg : Nat → Nat} {zf : Nat → Nat} {zn : Nat → Nat} {zl : Nat → Nat} {zr : Nat → Nat} {ze : Nat → Nat} {zt : Nat → Nat} {za : Nat → Nat} {zw : Nat → Nat} {zq : Nat → Nat} {G : Nat → Nat} {M : Nat → Nat} {Sn : Nat → Nat} {fw : Nat → Nat} {lag : Nat → Nat} {trig : Nat → Nat} {fl : Nat → Bool} {fm : Nat → Nat} {cs : Nat → Nat × Nat × Nat × Nat} {pi : Nat} {pc : Nat} {z9 : Nat → Nat} (h : SW ad y nw n nc qn fq mc1 mc2 aita acta qe cents grams cf cc fx lc lg told adp shr pr rel grp idx num zi zc zg zf zn zl zr ze zt za zw zq G M Sn fw lag trig fl fm cs pi pc ws) : SW ad y nw n nc qn fq mc1 mc2 aita acta qe cents grams cf cc fx lc lg told adp shr pr rel grp idx num zi zc zg zf zn zl z9 ze zt za zw zq G M Sn fw lag trig fl fm cs pi pc (ws.set 36 (ad 36, eN y 60 z9)) := by
  obtain ⟨xa, wf2, xb, pr2, rel2, grp2, idx2, cnum, rest, rfl, hz9, hcn9, hI, hC, hne⟩ := h
  exact ⟨xa, wf2, xb, pr2, rel2, grp2, idx2, cnum, rest, rfl, hz9, hcn9, hI, hC, hne⟩
theorem sw_set_ze {ws : va_W} {ad y : Nat → Nat} {nw : Nat} {n : Nat} {nc : Nat} {qn : Nat} {fq : Nat} {mc1 : Int32} {mc2 : Int32} {aita : Nat} {acta : Nat} {qe : Nat → Option Nat} {cents : Nat → Nat} {grams : Nat → Nat} {cf : Nat → Bool} {cc : Nat → Nat} {fx : Nat → Bool} {lc : Nat → Nat} {lg : Nat → Nat} {told : Nat → Nat} {adp : Nat → Nat} {shr : Nat → UInt64} {pr : Nat → UInt64} {rel : Nat → UInt64} {grp : Nat → UInt64} {idx : Nat → UInt64} {num : Nat → Nat} {zi : Nat → Nat} {zc : Nat → Nat} {zg : Nat → Nat} {zf : Nat → Nat} {zn : Nat → Nat} {zl : Nat → Nat} {zr : Nat → Nat} {ze : Nat → Nat} {zt : Nat → Nat} {za : Nat → Nat} {zw : Nat → Nat} {zq : Nat → Nat} {G : Nat → Nat} {M : Nat → Nat} {Sn : Nat → Nat} {fw : Nat → Nat} {lag : Nat → Nat} {trig : Nat → Nat} {fl : Nat → Bool} {fm : Nat → Nat} {cs : Nat → Nat × Nat × Nat × Nat} {pi : Nat} {pc : Nat} {z9 : Nat → Nat} (h : SW ad y nw n nc qn fq mc1 mc2 aita acta qe cents grams cf cc fx lc lg told adp shr pr rel grp idx num zi zc zg zf zn zl zr ze zt za zw zq G M Sn fw lag trig fl fm cs pi pc ws) : SW ad y nw n nc qn fq mc1 mc2 aita acta qe cents grams cf cc fx lc lg told adp shr pr rel grp idx num zi zc zg zf zn zl zr z9 zt za zw zq G M Sn fw lag trig fl fm cs pi pc (ws.set 37 (ad 37, eN y 60 z9)) := by
  obtain ⟨xa, wf2, xb, pr2, rel2, grp2, idx2, cnum, rest, rfl, hz9, hcn9, hI, hC, hne⟩ := h
  exact ⟨xa, wf2, xb, pr2, rel2, grp2, idx2, cnum, rest, rfl, hz9, hcn9, hI, hC, hne⟩
theorem sw_set_zt {ws : va_W} {ad y : Nat → Nat} {nw : Nat} {n : Nat} {nc : Nat} {qn : Nat} {fq : Nat} {mc1 : Int32} {mc2 : Int32} {aita : Nat} {acta : Nat} {qe : Nat → Option Nat} {cents : Nat → Nat} {grams : Nat → Nat} {cf : Nat → Bool} {cc : Nat → Nat} {fx : Nat → Bool} {lc : Nat → Nat} {lg : Nat → Nat} {told : Nat → Nat} {adp : Nat → Nat} {shr : Nat → UInt64} {pr : Nat → UInt64} {rel : Nat → UInt64} {grp : Nat → UInt64} {idx : Nat → UInt64} {num : Nat → Nat} {zi : Nat → Nat} {zc : Nat → Nat} {zg : Nat → Nat} {zf : Nat → Nat} {zn : Nat → Nat} {zl : Nat → Nat} {zr : Nat → Nat} {ze : Nat → Nat} {zt : Nat → Nat} {za : Nat → Nat} {zw : Nat → Nat} {zq : Nat → Nat} {G : Nat → Nat} {M : Nat → Nat} {Sn : Nat → Nat} {fw : Nat → Nat} {lag : Nat → Nat} {trig : Nat → Nat} {fl : Nat → Bool} {fm : Nat → Nat} {cs : Nat → Nat × Nat × Nat × Nat} {pi : Nat} {pc : Nat} {z9 : Nat → Nat} (h : SW ad y nw n nc qn fq mc1 mc2 aita acta qe cents grams cf cc fx lc lg told adp shr pr rel grp idx num zi zc zg zf zn zl zr ze zt za zw zq G M Sn fw lag trig fl fm cs pi pc ws) : SW ad y nw n nc qn fq mc1 mc2 aita acta qe cents grams cf cc fx lc lg told adp shr pr rel grp idx num zi zc zg zf zn zl zr ze z9 za zw zq G M Sn fw lag trig fl fm cs pi pc (ws.set 38 (ad 38, eN y 12 z9)) := by
  obtain ⟨xa, wf2, xb, pr2, rel2, grp2, idx2, cnum, rest, rfl, hz9, hcn9, hI, hC, hne⟩ := h
  exact ⟨xa, wf2, xb, pr2, rel2, grp2, idx2, cnum, rest, rfl, hz9, hcn9, hI, hC, hne⟩
theorem sw_set_za {ws : va_W} {ad y : Nat → Nat} {nw : Nat} {n : Nat} {nc : Nat} {qn : Nat} {fq : Nat} {mc1 : Int32} {mc2 : Int32} {aita : Nat} {acta : Nat} {qe : Nat → Option Nat} {cents : Nat → Nat} {grams : Nat → Nat} {cf : Nat → Bool} {cc : Nat → Nat} {fx : Nat → Bool} {lc : Nat → Nat} {lg : Nat → Nat} {told : Nat → Nat} {adp : Nat → Nat} {shr : Nat → UInt64} {pr : Nat → UInt64} {rel : Nat → UInt64} {grp : Nat → UInt64} {idx : Nat → UInt64} {num : Nat → Nat} {zi : Nat → Nat} {zc : Nat → Nat} {zg : Nat → Nat} {zf : Nat → Nat} {zn : Nat → Nat} {zl : Nat → Nat} {zr : Nat → Nat} {ze : Nat → Nat} {zt : Nat → Nat} {za : Nat → Nat} {zw : Nat → Nat} {zq : Nat → Nat} {G : Nat → Nat} {M : Nat → Nat} {Sn : Nat → Nat} {fw : Nat → Nat} {lag : Nat → Nat} {trig : Nat → Nat} {fl : Nat → Bool} {fm : Nat → Nat} {cs : Nat → Nat × Nat × Nat × Nat} {pi : Nat} {pc : Nat} {z9 : Nat → Nat} (h : SW ad y nw n nc qn fq mc1 mc2 aita acta qe cents grams cf cc fx lc lg told adp shr pr rel grp idx num zi zc zg zf zn zl zr ze zt za zw zq G M Sn fw lag trig fl fm cs pi pc ws) : SW ad y nw n nc qn fq mc1 mc2 aita acta qe cents grams cf cc fx lc lg told adp shr pr rel grp idx num zi zc zg zf zn zl zr ze zt z9 zw zq G M Sn fw lag trig fl fm cs pi pc (ws.set 39 (ad 39, eN y 12 z9)) := by
  obtain ⟨xa, wf2, xb, pr2, rel2, grp2, idx2, cnum, rest, rfl, hz9, hcn9, hI, hC, hne⟩ := h
  exact ⟨xa, wf2, xb, pr2, rel2, grp2, idx2, cnum, rest, rfl, hz9, hcn9, hI, hC, hne⟩
theorem sw_set_zw {ws : va_W} {ad y : Nat → Nat} {nw : Nat} {n : Nat} {nc : Nat} {qn : Nat} {fq : Nat} {mc1 : Int32} {mc2 : Int32} {aita : Nat} {acta : Nat} {qe : Nat → Option Nat} {cents : Nat → Nat} {grams : Nat → Nat} {cf : Nat → Bool} {cc : Nat → Nat} {fx : Nat → Bool} {lc : Nat → Nat} {lg : Nat → Nat} {told : Nat → Nat} {adp : Nat → Nat} {shr : Nat → UInt64} {pr : Nat → UInt64} {rel : Nat → UInt64} {grp : Nat → UInt64} {idx : Nat → UInt64} {num : Nat → Nat} {zi : Nat → Nat} {zc : Nat → Nat} {zg : Nat → Nat} {zf : Nat → Nat} {zn : Nat → Nat} {zl : Nat → Nat} {zr : Nat → Nat} {ze : Nat → Nat} {zt : Nat → Nat} {za : Nat → Nat} {zw : Nat → Nat} {zq : Nat → Nat} {G : Nat → Nat} {M : Nat → Nat} {Sn : Nat → Nat} {fw : Nat → Nat} {lag : Nat → Nat} {trig : Nat → Nat} {fl : Nat → Bool} {fm : Nat → Nat} {cs : Nat → Nat × Nat × Nat × Nat} {pi : Nat} {pc : Nat} {z9 : Nat → Nat} (h : SW ad y nw n nc qn fq mc1 mc2 aita acta qe cents grams cf cc fx lc lg told adp shr pr rel grp idx num zi zc zg zf zn zl zr ze zt za zw zq G M Sn fw lag trig fl fm cs pi pc ws) : SW ad y nw n nc qn fq mc1 mc2 aita acta qe cents grams cf cc fx lc lg told adp shr pr rel grp idx num zi zc zg zf zn zl zr ze zt za z9 zq G M Sn fw lag trig fl fm cs pi pc (ws.set 40 (ad 40, eL y 30 z9)) := by
  obtain ⟨xa, wf2, xb, pr2, rel2, grp2, idx2, cnum, rest, rfl, hz9, hcn9, hI, hC, hne⟩ := h
  exact ⟨xa, wf2, xb, pr2, rel2, grp2, idx2, cnum, rest, rfl, hz9, hcn9, hI, hC, hne⟩
theorem sw_set_zq {ws : va_W} {ad y : Nat → Nat} {nw : Nat} {n : Nat} {nc : Nat} {qn : Nat} {fq : Nat} {mc1 : Int32} {mc2 : Int32} {aita : Nat} {acta : Nat} {qe : Nat → Option Nat} {cents : Nat → Nat} {grams : Nat → Nat} {cf : Nat → Bool} {cc : Nat → Nat} {fx : Nat → Bool} {lc : Nat → Nat} {lg : Nat → Nat} {told : Nat → Nat} {adp : Nat → Nat} {shr : Nat → UInt64} {pr : Nat → UInt64} {rel : Nat → UInt64} {grp : Nat → UInt64} {idx : Nat → UInt64} {num : Nat → Nat} {zi : Nat → Nat} {zc : Nat → Nat} {zg : Nat → Nat} {zf : Nat → Nat} {zn : Nat → Nat} {zl : Nat → Nat} {zr : Nat → Nat} {ze : Nat → Nat} {zt : Nat → Nat} {za : Nat → Nat} {zw : Nat → Nat} {zq : Nat → Nat} {G : Nat → Nat} {M : Nat → Nat} {Sn : Nat → Nat} {fw : Nat → Nat} {lag : Nat → Nat} {trig : Nat → Nat} {fl : Nat → Bool} {fm : Nat → Nat} {cs : Nat → Nat × Nat × Nat × Nat} {pi : Nat} {pc : Nat} {z9 : Nat → Nat} (h : SW ad y nw n nc qn fq mc1 mc2 aita acta qe cents grams cf cc fx lc lg told adp shr pr rel grp idx num zi zc zg zf zn zl zr ze zt za zw zq G M Sn fw lag trig fl fm cs pi pc ws) : SW ad y nw n nc qn fq mc1 mc2 aita acta qe cents grams cf cc fx lc lg told adp shr pr rel grp idx num zi zc zg zf zn zl zr ze zt za zw z9 G M Sn fw lag trig fl fm cs pi pc (ws.set 41 (ad 41, eN y 5 z9)) := by
  obtain ⟨xa, wf2, xb, pr2, rel2, grp2, idx2, cnum, rest, rfl, hz9, hcn9, hI, hC, hne⟩ := h
  exact ⟨xa, wf2, xb, pr2, rel2, grp2, idx2, cnum, rest, rfl, hz9, hcn9, hI, hC, hne⟩
theorem g_fw {D : va_G} {A : Nat → Prop} {H : Heap} {G : Prop} {Pr : va_W → Prop} {w0 : va_W} (h : Pr w0) (hP : gvP D vwCl w0 H) (hD : gvD A w0) (kk : ∀ w, Pr w → gvP D vwCl w H → gvD A w → G) : G := kk _ h hP hD
/-- what holds at the head of the law's loop, j turns done -/
def Inv (ad y : Nat → Nat) (j : Nat) (w : va_W) : Prop := ∃ (nw : Nat) (n : Nat) (nc : Nat) (qn : Nat) (fq : Nat) (mc1 : Int32) (mc2 : Int32) (aita : Nat) (acta : Nat) (qe : Nat → Option Nat) (cents : Nat → Nat) (grams : Nat → Nat) (cf : Nat → Bool) (cc : Nat → Nat) (fx : Nat → Bool) (lc : Nat → Nat) (lg : Nat → Nat) (told : Nat → Nat) (adp : Nat → Nat) (shr : Nat → UInt64) (pr : Nat → UInt64) (rel : Nat → UInt64) (grp : Nat → UInt64) (idx : Nat → UInt64) (num : Nat → Nat) (zi : Nat → Nat) (zc : Nat → Nat) (zg : Nat → Nat) (zf : Nat → Nat) (zn : Nat → Nat) (zl : Nat → Nat) (zr : Nat → Nat) (ze : Nat → Nat) (zt : Nat → Nat) (za : Nat → Nat) (zw : Nat → Nat) (zq : Nat → Nat) (G : Nat → Nat) (M : Nat → Nat) (Sn : Nat → Nat) (fw : Nat → Nat) (lag : Nat → Nat) (trig : Nat → Nat) (fl : Nat → Bool) (fm : Nat → Nat) (cs : Nat → Nat × Nat × Nat × Nat) (pi : Nat) (pc : Nat), SW ad y nw n nc qn fq mc1 mc2 aita acta qe cents grams cf cc fx lc lg told adp shr pr rel grp idx num zi zc zg zf zn zl zr ze zt za zw zq G M Sn fw lag trig fl fm cs pi pc w ∧ LInv nw n nc qn fq cents grams cf cc fx lc lg told adp shr pr rel grp idx num zi zc zg zf zn zl zr ze zt za zw zq G M Sn fw lag trig fl fm cs ∧ EInv nc qn fq zc zn zw j
theorem Inv.mk {ad y : Nat → Nat} {nw : Nat} {n : Nat} {nc : Nat} {qn : Nat} {fq : Nat} {mc1 : Int32} {mc2 : Int32} {aita : Nat} {acta : Nat} {qe : Nat → Option Nat} {cents : Nat → Nat} {grams : Nat → Nat} {cf : Nat → Bool} {cc : Nat → Nat} {fx : Nat → Bool} {lc : Nat → Nat} {lg : Nat → Nat} {told : Nat → Nat} {adp : Nat → Nat} {shr : Nat → UInt64} {pr : Nat → UInt64} {rel : Nat → UInt64} {grp : Nat → UInt64} {idx : Nat → UInt64} {num : Nat → Nat} {zi : Nat → Nat} {zc : Nat → Nat} {zg : Nat → Nat} {zf : Nat → Nat} {zn : Nat → Nat} {zl : Nat → Nat} {zr : Nat → Nat} {ze : Nat → Nat} {zt : Nat → Nat} {za : Nat → Nat} {zw : Nat → Nat} {zq : Nat → Nat} {G : Nat → Nat} {M : Nat → Nat} {Sn : Nat → Nat} {fw : Nat → Nat} {lag : Nat → Nat} {trig : Nat → Nat} {fl : Nat → Bool} {fm : Nat → Nat} {cs : Nat → Nat × Nat × Nat × Nat} {pi : Nat} {pc : Nat} {w : va_W} {j : Nat} (hW : SW ad y nw n nc qn fq mc1 mc2 aita acta qe cents grams cf cc fx lc lg told adp shr pr rel grp idx num zi zc zg zf zn zl zr ze zt za zw zq G M Sn fw lag trig fl fm cs pi pc w) (hp : LInv nw n nc qn fq cents grams cf cc fx lc lg told adp shr pr rel grp idx num zi zc zg zf zn zl zr ze zt za zw zq G M Sn fw lag trig fl fm cs) (he : EInv nc qn fq zc zn zw j) : Inv ad y j w := ⟨nw, n, nc, qn, fq, mc1, mc2, aita, acta, qe, cents, grams, cf, cc, fx, lc, lg, told, adp, shr, pr, rel, grp, idx, num, zi, zc, zg, zf, zn, zl, zr, ze, zt, za, zw, zq, G, M, Sn, fw, lag, trig, fl, fm, cs, pi, pc, hW, hp, he⟩
theorem EInv.up {nc qn fq : Nat} {zc zn zw : Nat → Nat} {j : Nat} (h : EInv nc qn fq zc zn zw j) : EInv nc qn fq zc zn zw (j + 1) := ⟨by have := h.1; omega, by have := h.2.1; omega, h.2.2⟩
theorem EInv.q {nc qn fq : Nat} {zc zn zw : Nat → Nat} {j a ce : Nat} (h : EInv nc qn fq zc zn zw j) (hce : 1 ≤ ce) : EInv nc (qn + 1) fq (vf_upd zc a ce) zn zw (j + 1) := ⟨by have := h.1; omega, by have := h.2.1; omega, fun b hb h0 => by
  by_cases e : b = a
  · rw [e, upd_eq] at h0; omega
  · rw [upd_ne e] at h0; exact h.2.2.1 b hb h0, h.2.2.2⟩
theorem EInv.c {nc qn fq : Nat} {zc zn zw : Nat → Nat} {j a v : Nat} (h : EInv nc qn fq zc zn zw j) (hc : v = 0 ∨ 0 < zc a) : EInv nc qn fq zc (vf_upd zn a v) zw j := ⟨h.1, h.2.1, fun b hb h0 => by
  by_cases e : b = a
  · rw [e] at h0 ⊢; rw [upd_eq]; omega
  · rw [upd_ne e]; exact h.2.2.1 b hb h0, h.2.2.2⟩
def lCe (v : Int32) : Nat := if lowN v % 6 = 0 then 1 + lowN (v >>> (nI 3 &&& 31)) % 100000 else 80 + lowN (v >>> (nI 3 &&& 31)) % 60
def lGr (v : Int32) : Nat := if lowN (v >>> (nI 5 &&& 31)) % 5 = 0 then 1 + lowN (v >>> (nI 2 &&& 31)) % 10000 else 100
theorem lCe_b (v : Int32) : 1 ≤ lCe v ∧ lCe v ≤ 100000 := by
  have h1 := Nat.mod_lt (lowN (v >>> (nI 3 &&& 31))) (show 0 < 100000 by decide)
  have h2 := Nat.mod_lt (lowN (v >>> (nI 3 &&& 31))) (show 0 < 60 by decide)
  unfold lCe
  split <;> omega
theorem lGr_b (v : Int32) : 1 ≤ lGr v ∧ lGr v ≤ 10000 := by
  have h1 := Nat.mod_lt (lowN (v >>> (nI 2 &&& 31))) (show 0 < 10000 by decide)
  unfold lGr
  split <;> omega
theorem gb_zn {z : Nat} {b : Bool} (h : decide (z = 1) = b) (hz : z ≤ 1) : gb b = nI z := by
  subst h
  rcases (show z = 0 ∨ z = 1 by omega) with rfl | rfl <;> rfl
set_option maxHeartbeats 4000000 in
set_option maxRecDepth 100000 in
theorem c_L_quotes (l : Launch) {D : va_G} {ws : va_W} {ad y : Nat → Nat} {nw : Nat} {n : Nat} {nc : Nat} {qn : Nat} {fq : Nat} {mc1 : Int32} {mc2 : Int32} {aita : Nat} {acta : Nat} {qe : Nat → Option Nat} {cents : Nat → Nat} {grams : Nat → Nat} {cf : Nat → Bool} {cc : Nat → Nat} {fx : Nat → Bool} {lc : Nat → Nat} {lg : Nat → Nat} {told : Nat → Nat} {adp : Nat → Nat} {shr : Nat → UInt64} {pr : Nat → UInt64} {rel : Nat → UInt64} {grp : Nat → UInt64} {idx : Nat → UInt64} {num : Nat → Nat} {zi : Nat → Nat} {zc : Nat → Nat} {zg : Nat → Nat} {zf : Nat → Nat} {zn : Nat → Nat} {zl : Nat → Nat} {zr : Nat → Nat} {ze : Nat → Nat} {zt : Nat → Nat} {za : Nat → Nat} {zw : Nat → Nat} {zq : Nat → Nat} {G : Nat → Nat} {M : Nat → Nat} {Sn : Nat → Nat} {fw : Nat → Nat} {lag : Nat → Nat} {trig : Nat → Nat} {fl : Nat → Bool} {fm : Nat → Nat} {cs : Nat → Nat × Nat × Nat × Nat} {pi : Nat} {pc : Nat} {mi : Nat} {zv yv : Int32} {j9 : Nat} (hfl : l.stackTraces = false) (hW : SW ad y nw n nc qn fq mc1 mc2 aita acta qe cents grams cf cc fx lc lg told adp shr pr rel grp idx num zi zc zg zf zn zl zr ze zt za zw zq G M Sn fw lag trig fl fm cs pi pc ws) (hp : LInv nw n nc qn fq cents grams cf cc fx lc lg told adp shr pr rel grp idx num zi zc zg zf zn zl zr ze zt za zw zq G M Sn fw lag trig fl fm cs) (hn1 : 0 < n) (hnw5 : nw < 5) (he : EInv nc qn fq zc zn zw j9) (hj9 : j9 < 900) : gZi l yL_quotes wsL_quotes ({ frames := 9, cells := 2, slots := 12, locals := 175 }) D y (ad 0) mi [.ref (ad 1), .int (zv), .int (yv), .ref (ad 30), .ref (ad 31), .ref (ad 32), .ref (ad 34), .ref (ad 35), .ref (ad 36), .ref (ad 41)] ws (fun r u => r = gb true ∧ Inv ad y (j9 + 1) u) := by
  refine g_metZ (cc := cL_quotes) (maxL := 18) (by decide) rfl (Nat.le_of_ble_eq_true rfl) ?_
  intro p e s m below meth c A hx hb hml hr hts hown hlocks hE hP hD hS hA hZ ls hl
  have hown : s.vm.findClass RL = some m.cls := hown
  have hl : lv_has ls 18 [(0, .ref (ad 1)), (1, .int (zv)), (2, .int (yv)), (3, .ref (ad 30)), (4, .ref (ad 31)), (5, .ref (ad 32)), (6, .ref (ad 34)), (7, .ref (ad 35)), (8, .ref (ad 36)), (9, .ref (ad 41))] := hl
  have hp0 := hp
  obtain ⟨hq, hs3, hdb, bcc, bta, bz, hgm, hit, hem, hcg, hccg, hlg, hdz, hz2, hser, hrz, hsh, hta, hnum, hcw, hcb⟩ := hp0
  obtain ⟨b_zi, b_zc, b_zg, b_zf, b_zn, b_zl, b_zr, b_ze, b_zt, b_za, b_zw, b_zq⟩ := bz
  have he1 := he.1
  obtain ⟨fs9, f0_off⟩ := sw_off hW
  have f0_zi := sw_zi hW
  have f0_zc := sw_zc hW
  have f0_zg := sw_zg hW
  have f0_zn := sw_zn hW
  have f0_zl := sw_zl hW
  have f0_zr := sw_zr hW
  have f0_zq := sw_zq hW
  refine lv_iload_n hx hb dL_quotes_0 rfl (lv_at hl 1 rfl) ?_
  refine lv_aload hx hb dL_quotes_1 (lv_at hl 9 rfl) ?_
  refine lv_iconst (v := nI 0) hx hb dL_quotes_3 (by decide) ?_
  refine g_nald hx hb hE hP _ f0_zq (by omega) (by decide) dL_quotes_4 ?_
  have bd_4_1 := b_zq (0)
  refine g_iv (v' := nI (n)) (congrArg nI (hq.1)) ?_
  refine gc_S_i (As := [.int (zv), .int (nI (n))]) (rest := []) (c_L_low l (by omega) (by omega)) ⟨hx, hb, hml, hown, hts⟩ (va_cwS 2 hts gL_quotes_L_low rfl rfl rfl (by decide +kernel) ⟨Nat.le_of_ble_eq_true rfl, Nat.le_of_ble_eq_true rfl⟩) hE hP hD hS hA rfl rfl hl.1 (Nat.le_of_ble_eq_true rfl) dL_quotes_5 ⟨Nat.le_of_ble_eq_true rfl, Nat.le_of_ble_eq_true rfl⟩ (fun r_5 u_5 H locs hP hD hS q_5 => ?_)
  obtain ⟨it, hit9, e_it⟩ : ∃ z, z < n ∧ lowN zv % n = z := ⟨_, Nat.mod_lt _ (by omega), rfl⟩
  have q9 := q_5.trans (congrArg nI e_it)
  subst q9
  refine lv_istore (lv' := [(10, .int (nI (it))), (0, .ref (ad 1)), (1, .int (zv)), (2, .int (yv)), (3, .ref (ad 30)), (4, .ref (ad 31)), (5, .ref (ad 32)), (6, .ref (ad 34)), (7, .ref (ad 35)), (8, .ref (ad 36)), (9, .ref (ad 41))]) hx hb dL_quotes_8 hl (by decide) rfl (fun ls hl => ?_)
  refine lv_iload_n hx hb dL_quotes_10 rfl (lv_at hl 2 rfl) ?_
  refine lv_iconst (v := nI 3) hx hb dL_quotes_11 (by decide) ?_
  refine g_ishr hx hb dL_quotes_12 rfl ?_
  refine lv_iconst (v := nI 3) hx hb dL_quotes_13 (by decide) ?_
  refine gc_S_i (As := [.int ((zv >>> (nI 3 &&& 31))), .int (nI (3))]) (rest := []) (c_L_low l (by omega) (by omega)) ⟨hx, hb, hml, hown, hts⟩ (va_cwS 2 hts gL_quotes_L_low rfl rfl rfl (by decide +kernel) ⟨Nat.le_of_ble_eq_true rfl, Nat.le_of_ble_eq_true rfl⟩) hE hP hD hS hA rfl rfl hl.1 (Nat.le_of_ble_eq_true rfl) dL_quotes_14 ⟨Nat.le_of_ble_eq_true rfl, Nat.le_of_ble_eq_true rfl⟩ (fun r_14 u_14 H locs hP hD hS q_14 => ?_)
  obtain ⟨o, ho9, e_o⟩ : ∃ z, z < 3 ∧ lowN (zv >>> (nI 3 &&& 31)) % 3 = z := ⟨_, Nat.mod_lt _ (by omega), rfl⟩
  have q9 := q_14.trans (congrArg nI e_o)
  subst q9
  refine lv_istore (lv' := [(11, .int (nI (o))), (10, .int (nI (it))), (0, .ref (ad 1)), (1, .int (zv)), (2, .int (yv)), (3, .ref (ad 30)), (4, .ref (ad 31)), (5, .ref (ad 32)), (6, .ref (ad 34)), (7, .ref (ad 35)), (8, .ref (ad 36)), (9, .ref (ad 41))]) hx hb dL_quotes_17 hl (by decide) rfl (fun ls hl => ?_)
  refine lv_bipush (v := nI 12) hx hb dL_quotes_19 (by decide) ?_
  refine lv_aload hx hb dL_quotes_21 (lv_at hl 11 rfl) ?_
  refine lv_iconst (v := nI 1) hx hb dL_quotes_23 (by decide) ?_
  refine g_nald hx hb hE hP _ f0_zq (by omega) (by decide) dL_quotes_24 ?_
  have bd_24_2 := b_zq (1)
  refine g_iv (v' := nI (nw)) (congrArg nI (hq.2.1)) ?_
  refine g_imul hx hb dL_quotes_25 (pk_mul _ _) ?_
  refine lv_iconst (v := nI 3) hx hb dL_quotes_26 (by decide) ?_
  refine lv_iload hx hb dL_quotes_27 (lv_at hl 1 rfl) ?_
  refine g_imul hx hb dL_quotes_29 (pk_mul _ _) ?_
  refine g_iadd hx hb dL_quotes_30 (nI_add _ _) ?_
  refine lv_iload hx hb dL_quotes_31 (lv_at hl 0 rfl) ?_
  refine g_iadd hx hb dL_quotes_33 (nI_add _ _) ?_
  have e_sl : sl (12 * nw + 3 * it + o) = (nw * 48 + it * 4 + oo o) := sl_at (by omega) ho9
  have hat := hem (12 * nw + 3 * it + o) (by omega)
  rw [e_sl] at hat
  obtain ⟨a1, a2, a3, a4, a5, a6, a7⟩ := hat
  have ho4 := oo_lt ho9
  refine lv_istore (lv' := [(12, .int (nI (12 * nw + 3 * it + o))), (11, .int (nI (o))), (10, .int (nI (it))), (0, .ref (ad 1)), (1, .int (zv)), (2, .int (yv)), (3, .ref (ad 30)), (4, .ref (ad 31)), (5, .ref (ad 32)), (6, .ref (ad 34)), (7, .ref (ad 35)), (8, .ref (ad 36)), (9, .ref (ad 41))]) hx hb dL_quotes_34 hl (by decide) rfl (fun ls hl => ?_)
  refine lv_iload_n hx hb dL_quotes_36 rfl (lv_at hl 5 rfl) ?_
  refine lv_bipush (v := nI 6) hx hb dL_quotes_37 (by decide) ?_
  refine gc_S_i (As := [.int (yv), .int (nI (6))]) (rest := []) (c_L_low l (by decide) (by decide)) ⟨hx, hb, hml, hown, hts⟩ (va_cwS 2 hts gL_quotes_L_low rfl rfl rfl (by decide +kernel) ⟨Nat.le_of_ble_eq_true rfl, Nat.le_of_ble_eq_true rfl⟩) hE hP hD hS hA rfl rfl hl.1 (Nat.le_of_ble_eq_true rfl) dL_quotes_39 ⟨Nat.le_of_ble_eq_true rfl, Nat.le_of_ble_eq_true rfl⟩ (fun r_39 u_39 H locs hP hD hS q_39 => ?_)
  subst q_39
  refine g_reg (J := 69) (st1 := [.int (nI (lCe yv))]) hP hD hS (fun K_69 => ?_) (fun H locs hP hD hS => ?_)
  · refine g_if_ne (tgt := 58) hx hb (by omega) dL_quotes_42 (by decide) (fun c_42 => ?_) (fun c_42 => ?_)
    · refine lv_bipush (v := nI 80) hx hb dL_quotes_58 (by decide) ?_
      refine lv_iload_n hx hb dL_quotes_60 rfl (lv_at hl 5 rfl) ?_
      refine lv_iconst (v := nI 3) hx hb dL_quotes_61 (by decide) ?_
      refine g_ishr hx hb dL_quotes_62 rfl ?_
      refine lv_bipush (v := nI 60) hx hb dL_quotes_63 (by decide) ?_
      refine gc_S_i (As := [.int ((yv >>> (nI 3 &&& 31))), .int (nI (60))]) (rest := [.int (nI (80))]) (c_L_low l (by decide) (by decide)) ⟨hx, hb, hml, hown, hts⟩ (va_cwS 2 hts gL_quotes_L_low rfl rfl rfl (by decide +kernel) ⟨Nat.le_of_ble_eq_true rfl, Nat.le_of_ble_eq_true rfl⟩) hE hP hD hS hA rfl rfl hl.1 (Nat.le_of_ble_eq_true rfl) dL_quotes_65 ⟨Nat.le_of_ble_eq_true rfl, Nat.le_of_ble_eq_true rfl⟩ (fun r_65 u_65 H locs hP hD hS q_65 => ?_)
      subst q_65
      refine g_iadd hx hb dL_quotes_68 (nI_add _ _) ?_
      refine g_iv (v' := (nI (lCe yv))) ((congrArg nI (if_neg (by omega)).symm)) ?_
      exact K_69 _ _ hP hD hS
    · refine lv_iconst (v := nI 1) hx hb dL_quotes_45 (by decide) ?_
      refine lv_iload_n hx hb dL_quotes_46 rfl (lv_at hl 5 rfl) ?_
      refine lv_iconst (v := nI 3) hx hb dL_quotes_47 (by decide) ?_
      refine g_ishr hx hb dL_quotes_48 rfl ?_
      refine lv_ldc (v := 100000) hx hb hown (hts (.constant RL 171 (100000)) (by decide +kernel)) dL_quotes_49 ?_
      rw [show (100000 : Int32) = nI 100000 from by decide]
      refine gc_S_i (As := [.int ((yv >>> (nI 3 &&& 31))), .int (nI (100000))]) (rest := [.int (nI (1))]) (c_L_low l (by decide) (by decide)) ⟨hx, hb, hml, hown, hts⟩ (va_cwS 2 hts gL_quotes_L_low rfl rfl rfl (by decide +kernel) ⟨Nat.le_of_ble_eq_true rfl, Nat.le_of_ble_eq_true rfl⟩) hE hP hD hS hA rfl rfl hl.1 (Nat.le_of_ble_eq_true rfl) dL_quotes_51 ⟨Nat.le_of_ble_eq_true rfl, Nat.le_of_ble_eq_true rfl⟩ (fun r_51 u_51 H locs hP hD hS q_51 => ?_)
      subst q_51
      refine g_iadd hx hb dL_quotes_54 (nI_add _ _) ?_
      refine lv_goto (tgt := 69) hx hb dL_quotes_55 (by decide) ?_
      refine g_iv (v' := (nI (lCe yv))) ((congrArg nI (if_pos c_42).symm)) ?_
      exact K_69 _ _ hP hD hS
  obtain ⟨ce, e_ce, hce, kce⟩ : ∃ z, lCe yv = z ∧ 1 ≤ z ∧ z ≤ 100000 := ⟨_, rfl, lCe_b yv⟩
  refine g_iv (v' := nI (ce)) (congrArg nI e_ce) ?_
  refine lv_istore (lv' := [(13, .int (nI (ce))), (12, .int (nI (12 * nw + 3 * it + o))), (11, .int (nI (o))), (10, .int (nI (it))), (0, .ref (ad 1)), (1, .int (zv)), (2, .int (yv)), (3, .ref (ad 30)), (4, .ref (ad 31)), (5, .ref (ad 32)), (6, .ref (ad 34)), (7, .ref (ad 35)), (8, .ref (ad 36)), (9, .ref (ad 41))]) hx hb dL_quotes_69 hl (by decide) rfl (fun ls hl => ?_)
  refine lv_iload_n hx hb dL_quotes_71 rfl (lv_at hl 6 rfl) ?_
  refine lv_iconst (v := nI 5) hx hb dL_quotes_72 (by decide) ?_
  refine g_ishr hx hb dL_quotes_73 rfl ?_
  refine lv_iconst (v := nI 5) hx hb dL_quotes_74 (by decide) ?_
  refine gc_S_i (As := [.int ((yv >>> (nI 5 &&& 31))), .int (nI (5))]) (rest := []) (c_L_low l (by decide) (by decide)) ⟨hx, hb, hml, hown, hts⟩ (va_cwS 2 hts gL_quotes_L_low rfl rfl rfl (by decide +kernel) ⟨Nat.le_of_ble_eq_true rfl, Nat.le_of_ble_eq_true rfl⟩) hE hP hD hS hA rfl rfl hl.1 (Nat.le_of_ble_eq_true rfl) dL_quotes_75 ⟨Nat.le_of_ble_eq_true rfl, Nat.le_of_ble_eq_true rfl⟩ (fun r_75 u_75 H locs hP hD hS q_75 => ?_)
  subst q_75
  refine g_reg (J := 97) (st1 := [.int (nI (lGr yv))]) hP hD hS (fun K_97 => ?_) (fun H locs hP hD hS => ?_)
  · refine g_if_ne (tgt := 95) hx hb (by omega) dL_quotes_78 (by decide) (fun c_78 => ?_) (fun c_78 => ?_)
    · refine lv_bipush (v := nI 100) hx hb dL_quotes_95 (by decide) ?_
      refine g_iv (v' := (nI (lGr yv))) ((congrArg nI (if_neg (by omega)).symm)) ?_
      exact K_97 _ _ hP hD hS
    · refine lv_iconst (v := nI 1) hx hb dL_quotes_81 (by decide) ?_
      refine lv_iload_n hx hb dL_quotes_82 rfl (lv_at hl 6 rfl) ?_
      refine lv_iconst (v := nI 2) hx hb dL_quotes_83 (by decide) ?_
      refine g_ishr hx hb dL_quotes_84 rfl ?_
      refine lv_sipush (v := nI 10000) hx hb dL_quotes_85 (by decide) ?_
      refine gc_S_i (As := [.int ((yv >>> (nI 2 &&& 31))), .int (nI (10000))]) (rest := [.int (nI (1))]) (c_L_low l (by decide) (by decide)) ⟨hx, hb, hml, hown, hts⟩ (va_cwS 2 hts gL_quotes_L_low rfl rfl rfl (by decide +kernel) ⟨Nat.le_of_ble_eq_true rfl, Nat.le_of_ble_eq_true rfl⟩) hE hP hD hS hA rfl rfl hl.1 (Nat.le_of_ble_eq_true rfl) dL_quotes_88 ⟨Nat.le_of_ble_eq_true rfl, Nat.le_of_ble_eq_true rfl⟩ (fun r_88 u_88 H locs hP hD hS q_88 => ?_)
      subst q_88
      refine g_iadd hx hb dL_quotes_91 (nI_add _ _) ?_
      refine lv_goto (tgt := 97) hx hb dL_quotes_92 (by decide) ?_
      refine g_iv (v' := (nI (lGr yv))) ((congrArg nI (if_pos c_78).symm)) ?_
      exact K_97 _ _ hP hD hS
  obtain ⟨gr, e_gr, hgr, kgr⟩ : ∃ z, lGr yv = z ∧ 1 ≤ z ∧ z ≤ 10000 := ⟨_, rfl, lGr_b yv⟩
  refine g_iv (v' := nI (gr)) (congrArg nI e_gr) ?_
  refine lv_istore (lv' := [(14, .int (nI (gr))), (13, .int (nI (ce))), (12, .int (nI (12 * nw + 3 * it + o))), (11, .int (nI (o))), (10, .int (nI (it))), (0, .ref (ad 1)), (1, .int (zv)), (2, .int (yv)), (3, .ref (ad 30)), (4, .ref (ad 31)), (5, .ref (ad 32)), (6, .ref (ad 34)), (7, .ref (ad 35)), (8, .ref (ad 36)), (9, .ref (ad 41))]) hx hb dL_quotes_97 hl (by decide) rfl (fun ls hl => ?_)
  refine lv_iload_n hx hb dL_quotes_99 rfl (lv_at hl 7 rfl) ?_
  refine lv_bipush (v := nI 6) hx hb dL_quotes_100 (by decide) ?_
  refine g_ishr hx hb dL_quotes_102 rfl ?_
  refine lv_bipush (v := nI 7) hx hb dL_quotes_103 (by decide) ?_
  refine gc_S_i (As := [.int ((yv >>> (nI 6 &&& 31))), .int (nI (7))]) (rest := []) (c_L_low l (by decide) (by decide)) ⟨hx, hb, hml, hown, hts⟩ (va_cwS 2 hts gL_quotes_L_low rfl rfl rfl (by decide +kernel) ⟨Nat.le_of_ble_eq_true rfl, Nat.le_of_ble_eq_true rfl⟩) hE hP hD hS hA rfl rfl hl.1 (Nat.le_of_ble_eq_true rfl) dL_quotes_105 ⟨Nat.le_of_ble_eq_true rfl, Nat.le_of_ble_eq_true rfl⟩ (fun r_105 u_105 H locs hP hD hS q_105 => ?_)
  subst q_105
  refine g_if_ne (tgt := 190) hx hb (by omega) dL_quotes_108 (by decide) (fun c_108 => ?_) (fun c_108 => ?_)
  · refine lv_aload_n hx hb dL_quotes_190 rfl (lv_at hl 8 rfl) ?_
    refine lv_iconst (v := nI 3) hx hb dL_quotes_191 (by decide) ?_
    refine lv_iload hx hb dL_quotes_192 (lv_at hl 4 rfl) ?_
    refine g_imul hx hb dL_quotes_194 (pk_mul _ _) ?_
    refine lv_iconst (v := nI 2) hx hb dL_quotes_195 (by decide) ?_
    refine g_iadd hx hb dL_quotes_196 (nI_add _ _) ?_
    refine g_nald hx hb hE hP _ f0_zi (by omega) (by decide) dL_quotes_197 ?_
    have bd_197_3 := b_zi ((3 * it) + 2)
    refine g_iv (v' := nI (Sn it)) (congrArg nI ((hit it hit9).2.2)) ?_
    refine lv_aload hx hb dL_quotes_198 (lv_at hl 14 rfl) ?_
    refine lv_iconst (v := nI 1) hx hb dL_quotes_200 (by decide) ?_
    refine g_nald hx hb hE hP _ f0_zq (by omega) (by decide) dL_quotes_201 ?_
    have bd_201_4 := b_zq (1)
    refine g_iv (v' := nI (nw)) (congrArg nI (hq.2.1)) ?_
    refine g_ishr hx hb dL_quotes_202 (pk_shrN (by have := hgm.2.2 it; omega) _ nw (by rw [g_sh12 _ (by omega)])) ?_
    refine lv_iconst (v := nI 1) hx hb dL_quotes_203 (by decide) ?_
    refine g_iand hx hb dL_quotes_204 (pk_andN (by have := Nat.div_le_self (Sn it) (2 ^ nw); have := hgm.2.2 it; omega) 1 rfl) ?_
    refine lv_iconst (v := nI 1) hx hb dL_quotes_205 (by decide) ?_
    refine g_icmp_ne (tgt := 221) hx hb (by omega) (by omega) dL_quotes_206 (by decide) (fun c_206 => ?_) (fun c_206 => ?_)
    · refine lv_iconst (v := nI 0) hx hb dL_quotes_221 (by decide) ?_
      refine lv_istore (lv' := [(15, .int (nI (0))), (14, .int (nI (gr))), (13, .int (nI (ce))), (12, .int (nI (12 * nw + 3 * it + o))), (11, .int (nI (o))), (10, .int (nI (it))), (0, .ref (ad 1)), (1, .int (zv)), (2, .int (yv)), (3, .ref (ad 30)), (4, .ref (ad 31)), (5, .ref (ad 32)), (6, .ref (ad 34)), (7, .ref (ad 35)), (8, .ref (ad 36)), (9, .ref (ad 41))]) hx hb dL_quotes_222 hl (by decide) rfl (fun ls hl => ?_)
      refine lv_iload hx hb dL_quotes_224 (lv_at hl 0 rfl) ?_
      refine g_if_eq (tgt := 251) hx hb (by omega) dL_quotes_226 (by decide) (fun c_226 => ?_) (fun c_226 => absurd c_226 (by decide))
      refine lv_aload_n hx hb dL_quotes_251 rfl (lv_at hl 6 rfl) ?_
      refine lv_iconst (v := nI 0) hx hb dL_quotes_252 (by decide) ?_
      refine lv_iload hx hb dL_quotes_253 (lv_at hl 5 rfl) ?_
      refine lv_iload hx hb dL_quotes_255 (lv_at hl 4 rfl) ?_
      refine gc_S_i (As := [.int (nI (o))]) (rest := [.int (nI (it)), .int (nI (0)), .ref (ad 1)]) (c_L_outlet l ho9) ⟨hx, hb, hml, hown, hts⟩ (va_cwS 1 hts gL_quotes_L_outlet rfl rfl rfl (by decide +kernel) ⟨Nat.le_of_ble_eq_true rfl, Nat.le_of_ble_eq_true rfl⟩) hE hP hD hS hA rfl rfl hl.1 (Nat.le_of_ble_eq_true rfl) dL_quotes_257 ⟨Nat.le_of_ble_eq_true rfl, Nat.le_of_ble_eq_true rfl⟩ (fun r_257 u_257 H locs hP hD hS q_257 => ?_)
      subst q_257
      refine lv_iload hx hb dL_quotes_260 (lv_at hl 2 rfl) ?_
      refine lv_iload hx hb dL_quotes_262 (lv_at hl 1 rfl) ?_
      have hsn : (Sn it).testBit (nw % 12) = false := by rw [Nat.mod_eq_of_lt (show nw < 12 by omega), Nat.testBit_eq_decide_div_mod_eq]; exact decide_eq_false (by omega)
      refine gcz_S_i (As := [.ref (ad 1), .int (nI (0)), .int (nI (it)), .int (nI (oo (o))), .int (nI (ce)), .int (nI (gr))]) (rest := []) (kx_quote l hW hp hfl hit9 ho4 hce kce hgr kgr hnw5 hsn) ⟨hx, hb, hml, hown, hts⟩ (vx_cwSW 6 hts gL_quotes_L_calls rfl rfl rfl (by decide +kernel) ⟨Nat.le_of_ble_eq_true rfl, Nat.le_of_ble_eq_true rfl⟩) hE hZ hP hD hS hA rfl rfl hl.1 (Nat.le_of_ble_eq_true rfl) dL_quotes_264 ⟨Nat.le_of_ble_eq_true rfl, Nat.le_of_ble_eq_true rfl⟩ (fun r_264_5 u_264_5 H locs hP hD hS q_264_5 => ?_)
      obtain ⟨q9, hW⟩ := q_264_5
      subst q9
      obtain ⟨fs9, f_off⟩ := sw_off hW
      have f_zi := sw_zi hW
      have f_zc := sw_zc hW
      have f_zg := sw_zg hW
      have f_zn := sw_zn hW
      have f_zl := sw_zl hW
      have f_zr := sw_zr hW
      have f_zq := sw_zq hW
      refine lv_iload hx hb dL_quotes_267 (lv_at hl 0 rfl) ?_
      refine g_if_eq (tgt := 279) hx hb (by omega) dL_quotes_269 (by decide) (fun c_269 => ?_) (fun c_269 => absurd c_269 (by decide))
      refine lv_sipush (v := (-1003)) hx hb dL_quotes_279 (by decide) ?_
      refine lv_icmp_ne (tgt := 289) hx hb dL_quotes_282 (by decide) (fun c_282 => absurd c_282 (fun z => z (by decide))) (fun c_282 => ?_)
      refine lv_iconst (v := nI 1) hx hb dL_quotes_285 (by decide) ?_
      refine lv_goto (tgt := 290) hx hb dL_quotes_286 (by decide) ?_
      refine lv_istore (lv' := [(16, .int (nI (1))), (15, .int (nI (0))), (14, .int (nI (gr))), (13, .int (nI (ce))), (12, .int (nI (12 * nw + 3 * it + o))), (11, .int (nI (o))), (10, .int (nI (it))), (0, .ref (ad 1)), (1, .int (zv)), (2, .int (yv)), (3, .ref (ad 30)), (4, .ref (ad 31)), (5, .ref (ad 32)), (6, .ref (ad 34)), (7, .ref (ad 35)), (8, .ref (ad 36)), (9, .ref (ad 41))]) hx hb dL_quotes_290 hl (by decide) rfl (fun ls hl => ?_)
      refine lv_iload hx hb dL_quotes_292 (lv_at hl 0 rfl) ?_
      refine g_if_eq (tgt := 373) hx hb (by omega) dL_quotes_294 (by decide) (fun c_294 => absurd c_294 (by decide)) (fun c_294 => ?_)
      refine lv_iload_n hx hb dL_quotes_297 rfl (lv_at hl 9 rfl) ?_
      refine lv_bipush (v := nI 7) hx hb dL_quotes_298 (by decide) ?_
      refine g_ishr hx hb dL_quotes_300 rfl ?_
      refine lv_iconst (v := nI 3) hx hb dL_quotes_301 (by decide) ?_
      refine gc_S_i (As := [.int ((yv >>> (nI 7 &&& 31))), .int (nI (3))]) (rest := []) (c_L_low l (by decide) (by decide)) ⟨hx, hb, hml, hown, hts⟩ (va_cwS 2 hts gL_quotes_L_low rfl rfl rfl (by decide +kernel) ⟨Nat.le_of_ble_eq_true rfl, Nat.le_of_ble_eq_true rfl⟩) hE hP hD hS hA rfl rfl hl.1 (Nat.le_of_ble_eq_true rfl) dL_quotes_302 ⟨Nat.le_of_ble_eq_true rfl, Nat.le_of_ble_eq_true rfl⟩ (fun r_302 u_302 H locs hP hD hS q_302 => ?_)
      subst q_302
      refine g_if_ne (tgt := 373) hx hb (by omega) dL_quotes_305 (by decide) (fun c_305 => ?_) (fun c_305 => ?_)
      · refine lv_iload hx hb dL_quotes_373 (lv_at hl 0 rfl) ?_
        refine W.widen (k := 2) (n := 12) (Nat.le_of_ble_eq_true rfl) (Nat.le_of_ble_eq_true rfl) ?_
        refine g_zret (r := (gb (true))) hx hb hr hlocks u_264_5 dL_quotes_375 (gb_narrow _) hS hP hD ?_
        exact ⟨rfl, Inv.mk hW hp he.up⟩
      · refine lv_aload hx hb dL_quotes_308 (lv_at hl 13 rfl) ?_
        refine lv_iload hx hb dL_quotes_310 (lv_at hl 4 rfl) ?_
        refine g_nald hx hb hE hP _ f_zn (by omega) (by decide) dL_quotes_312 ?_
        have bd_312_6 := b_zn (12 * nw + 3 * it + o)
        refine lv_istore (lv' := [(17, .int (nI (zn (12 * nw + 3 * it + o)))), (16, .int (nI (1))), (15, .int (nI (0))), (14, .int (nI (gr))), (13, .int (nI (ce))), (12, .int (nI (12 * nw + 3 * it + o))), (11, .int (nI (o))), (10, .int (nI (it))), (0, .ref (ad 1)), (1, .int (zv)), (2, .int (yv)), (3, .ref (ad 30)), (4, .ref (ad 31)), (5, .ref (ad 32)), (6, .ref (ad 34)), (7, .ref (ad 35)), (8, .ref (ad 36)), (9, .ref (ad 41))]) hx hb dL_quotes_313 hl (by decide) rfl (fun ls hl => ?_)
        rcases Nat.eq_zero_or_pos (zc (12 * nw + 3 * it + o)) with hz9 | hz9
        · refine lv_aload_n hx hb dL_quotes_315 rfl (lv_at hl 8 rfl) ?_
          refine lv_iconst (v := nI 1) hx hb dL_quotes_316 (by decide) ?_
          refine lv_iload hx hb dL_quotes_317 (lv_at hl 7 rfl) ?_
          refine lv_iload hx hb dL_quotes_319 (lv_at hl 6 rfl) ?_
          refine gc_S_i (As := [.int (nI (o))]) (rest := [.int (nI (it)), .int (nI (1)), .ref (ad 1)]) (c_L_outlet l ho9) ⟨hx, hb, hml, hown, hts⟩ (va_cwS 1 hts gL_quotes_L_outlet rfl rfl rfl (by decide +kernel) ⟨Nat.le_of_ble_eq_true rfl, Nat.le_of_ble_eq_true rfl⟩) hE hP hD hS hA rfl rfl hl.1 (Nat.le_of_ble_eq_true rfl) dL_quotes_321 ⟨Nat.le_of_ble_eq_true rfl, Nat.le_of_ble_eq_true rfl⟩ (fun r_321 u_321 H locs hP hD hS q_321 => ?_)
          subst q_321
          refine lv_iconst (v := nI 0) hx hb dL_quotes_324 (by decide) ?_
          refine lv_iconst (v := nI 0) hx hb dL_quotes_325 (by decide) ?_
          refine gcz_S_i (As := [.ref (ad 1), .int (nI (1)), .int (nI (it)), .int (nI (oo (o))), .int (nI (0)), .int (nI (0))]) (rest := []) (kx_confirm l hW hp hfl hit9 ho4 hnw5 (a1.symm.trans hz9)) ⟨hx, hb, hml, hown, hts⟩ (vx_cwSW 6 hts gL_quotes_L_calls rfl rfl rfl (by decide +kernel) ⟨Nat.le_of_ble_eq_true rfl, Nat.le_of_ble_eq_true rfl⟩) hE hZ hP hD hS hA rfl rfl hl.1 (Nat.le_of_ble_eq_true rfl) dL_quotes_326 ⟨Nat.le_of_ble_eq_true rfl, Nat.le_of_ble_eq_true rfl⟩ (fun r_326_7 u_326_7 H locs hP hD hS q_326_7 => ?_)
          obtain ⟨q9, hW⟩ := q_326_7
          subst q9
          obtain ⟨fs9, f_off⟩ := sw_off hW
          have f_zi := sw_zi hW
          have f_zc := sw_zc hW
          have f_zg := sw_zg hW
          have f_zn := sw_zn hW
          have f_zl := sw_zl hW
          have f_zr := sw_zr hW
          have f_zq := sw_zq hW
          refine lv_aload hx hb dL_quotes_329 (lv_at hl 12 rfl) ?_
          refine lv_iload hx hb dL_quotes_331 (lv_at hl 5 rfl) ?_
          refine g_nald hx hb hE hP _ f_zc (by omega) (by decide) dL_quotes_333 ?_
          have bd_333_8 := b_zc (12 * nw + 3 * it + o)
          refine g_if_ne (tgt := 343) hx hb (by omega) dL_quotes_334 (by decide) (fun c_334 => absurd c_334 (by omega)) (fun c_334 => ?_)
          refine lv_sipush (v := (-1003)) hx hb dL_quotes_337 (by decide) ?_
          refine lv_goto (tgt := 345) hx hb dL_quotes_340 (by decide) ?_
          refine lv_icmp_ne (tgt := 352) hx hb dL_quotes_345 (by decide) (fun c_345 => absurd c_345 (fun z => z (by decide))) (fun c_345 => ?_)
          refine lv_iconst (v := nI 1) hx hb dL_quotes_348 (by decide) ?_
          refine lv_goto (tgt := 353) hx hb dL_quotes_349 (by decide) ?_
          refine lv_istore (lv' := [(16, .int (nI (1))), (17, .int (nI (zn (12 * nw + 3 * it + o)))), (15, .int (nI (0))), (14, .int (nI (gr))), (13, .int (nI (ce))), (12, .int (nI (12 * nw + 3 * it + o))), (11, .int (nI (o))), (10, .int (nI (it))), (0, .ref (ad 1)), (1, .int (zv)), (2, .int (yv)), (3, .ref (ad 30)), (4, .ref (ad 31)), (5, .ref (ad 32)), (6, .ref (ad 34)), (7, .ref (ad 35)), (8, .ref (ad 36)), (9, .ref (ad 41))]) hx hb dL_quotes_353 hl (by decide) rfl (fun ls hl => ?_)
          refine lv_aload hx hb dL_quotes_355 (lv_at hl 14 rfl) ?_
          refine lv_iload hx hb dL_quotes_357 (lv_at hl 5 rfl) ?_
          refine lv_aload hx hb dL_quotes_359 (lv_at hl 12 rfl) ?_
          refine lv_iload hx hb dL_quotes_361 (lv_at hl 5 rfl) ?_
          refine g_nald hx hb hE hP _ f_zc (by omega) (by decide) dL_quotes_363 ?_
          have bd_363_9 := b_zc (12 * nw + 3 * it + o)
          refine g_if_ne (tgt := 371) hx hb (by omega) dL_quotes_364 (by decide) (fun c_364 => absurd c_364 (by omega)) (fun c_364 => ?_)
          refine lv_iconst (v := nI 0) hx hb dL_quotes_367 (by decide) ?_
          refine lv_goto (tgt := 372) hx hb dL_quotes_368 (by decide) ?_
          refine g_nast hx hb hE hP hD hS _ f_zn (by omega) (by decide) dL_quotes_372 (fun H locs hP hD hS => ?_)
          refine g_fw (sw_set_zn (z9 := vf_upd zn (12 * nw + 3 * it + o) (0)) hW) hP hD (fun w372_10 hW hP hD => ?_)
          have b_zn := upd_bd (k := 12 * nw + 3 * it + o) (x := 0) b_zn (by decide)
          obtain ⟨fs9, f_off⟩ := sw_off hW
          have f_zi := sw_zi hW
          have f_zc := sw_zc hW
          have f_zg := sw_zg hW
          have f_zn := sw_zn hW
          have f_zl := sw_zl hW
          have f_zr := sw_zr hW
          have f_zq := sw_zq hW
          refine lv_iload hx hb dL_quotes_373 (lv_at hl 0 rfl) ?_
          refine W.widen (k := 2) (n := 12) (Nat.le_of_ble_eq_true rfl) (Nat.le_of_ble_eq_true rfl) ?_
          refine g_zret (r := (gb (true))) hx hb hr hlocks w372_10 dL_quotes_375 (gb_narrow _) hS hP hD ?_
          exact ⟨rfl, Inv.mk hW (hp.noconf hit9 ho9 hnw5 (he.2.2.1 _ (by omega) hz9)) (he.up.c (Or.inl rfl))⟩
        · refine lv_aload_n hx hb dL_quotes_315 rfl (lv_at hl 8 rfl) ?_
          refine lv_iconst (v := nI 1) hx hb dL_quotes_316 (by decide) ?_
          refine lv_iload hx hb dL_quotes_317 (lv_at hl 7 rfl) ?_
          refine lv_iload hx hb dL_quotes_319 (lv_at hl 6 rfl) ?_
          refine gc_S_i (As := [.int (nI (o))]) (rest := [.int (nI (it)), .int (nI (1)), .ref (ad 1)]) (c_L_outlet l ho9) ⟨hx, hb, hml, hown, hts⟩ (va_cwS 1 hts gL_quotes_L_outlet rfl rfl rfl (by decide +kernel) ⟨Nat.le_of_ble_eq_true rfl, Nat.le_of_ble_eq_true rfl⟩) hE hP hD hS hA rfl rfl hl.1 (Nat.le_of_ble_eq_true rfl) dL_quotes_321 ⟨Nat.le_of_ble_eq_true rfl, Nat.le_of_ble_eq_true rfl⟩ (fun r_321 u_321 H locs hP hD hS q_321 => ?_)
          subst q_321
          refine lv_iconst (v := nI 0) hx hb dL_quotes_324 (by decide) ?_
          refine lv_iconst (v := nI 0) hx hb dL_quotes_325 (by decide) ?_
          refine gcz_S_i (As := [.ref (ad 1), .int (nI (1)), .int (nI (it)), .int (nI (oo (o))), .int (nI (0)), .int (nI (0))]) (rest := []) (k_confirm l hW hp hfl hit9 ho4 hnw5 (by rw [← a1]; exact hz9)) ⟨hx, hb, hml, hown, hts⟩ (vx_cwSW 6 hts gL_quotes_L_calls rfl rfl rfl (by decide +kernel) ⟨Nat.le_of_ble_eq_true rfl, Nat.le_of_ble_eq_true rfl⟩) hE hZ hP hD hS hA rfl rfl hl.1 (Nat.le_of_ble_eq_true rfl) dL_quotes_326 ⟨Nat.le_of_ble_eq_true rfl, Nat.le_of_ble_eq_true rfl⟩ (fun r_326_11 u_326_11 H locs hP hD hS q_326_11 => ?_)
          obtain ⟨q9, hW⟩ := q_326_11
          have q9 := q9.trans (gb_zn a5 (b_zn (12 * nw + 3 * it + o)))
          subst q9
          obtain ⟨fs9, f_off⟩ := sw_off hW
          have f_zi := sw_zi hW
          have f_zc := sw_zc hW
          have f_zg := sw_zg hW
          have f_zn := sw_zn hW
          have f_zl := sw_zl hW
          have f_zr := sw_zr hW
          have f_zq := sw_zq hW
          refine lv_aload hx hb dL_quotes_329 (lv_at hl 12 rfl) ?_
          refine lv_iload hx hb dL_quotes_331 (lv_at hl 5 rfl) ?_
          refine g_nald hx hb hE hP _ f_zc (by omega) (by decide) dL_quotes_333 ?_
          have bd_333_12 := b_zc (12 * nw + 3 * it + o)
          refine g_if_ne (tgt := 343) hx hb (by omega) dL_quotes_334 (by decide) (fun c_334 => ?_) (fun c_334 => absurd c_334 (by omega))
          refine lv_iload hx hb dL_quotes_343 (lv_at hl 0 rfl) ?_
          refine g_icmp_ne (tgt := 352) hx hb (by omega) (by omega) dL_quotes_345 (by decide) (fun c_345 => absurd c_345 (fun z => z rfl)) (fun c_345 => ?_)
          refine lv_iconst (v := nI 1) hx hb dL_quotes_348 (by decide) ?_
          refine lv_goto (tgt := 353) hx hb dL_quotes_349 (by decide) ?_
          refine lv_istore (lv' := [(16, .int (nI (1))), (17, .int (nI (zn (12 * nw + 3 * it + o)))), (15, .int (nI (0))), (14, .int (nI (gr))), (13, .int (nI (ce))), (12, .int (nI (12 * nw + 3 * it + o))), (11, .int (nI (o))), (10, .int (nI (it))), (0, .ref (ad 1)), (1, .int (zv)), (2, .int (yv)), (3, .ref (ad 30)), (4, .ref (ad 31)), (5, .ref (ad 32)), (6, .ref (ad 34)), (7, .ref (ad 35)), (8, .ref (ad 36)), (9, .ref (ad 41))]) hx hb dL_quotes_353 hl (by decide) rfl (fun ls hl => ?_)
          refine lv_aload hx hb dL_quotes_355 (lv_at hl 14 rfl) ?_
          refine lv_iload hx hb dL_quotes_357 (lv_at hl 5 rfl) ?_
          refine lv_aload hx hb dL_quotes_359 (lv_at hl 12 rfl) ?_
          refine lv_iload hx hb dL_quotes_361 (lv_at hl 5 rfl) ?_
          refine g_nald hx hb hE hP _ f_zc (by omega) (by decide) dL_quotes_363 ?_
          have bd_363_13 := b_zc (12 * nw + 3 * it + o)
          refine g_if_ne (tgt := 371) hx hb (by omega) dL_quotes_364 (by decide) (fun c_364 => ?_) (fun c_364 => absurd c_364 (by omega))
          refine lv_iconst (v := nI 1) hx hb dL_quotes_371 (by decide) ?_
          refine g_nast hx hb hE hP hD hS _ f_zn (by omega) (by decide) dL_quotes_372 (fun H locs hP hD hS => ?_)
          refine g_fw (sw_set_zn (z9 := vf_upd zn (12 * nw + 3 * it + o) (1)) hW) hP hD (fun w372_14 hW hP hD => ?_)
          have b_zn := upd_bd (k := 12 * nw + 3 * it + o) (x := 1) b_zn (by decide)
          obtain ⟨fs9, f_off⟩ := sw_off hW
          have f_zi := sw_zi hW
          have f_zc := sw_zc hW
          have f_zg := sw_zg hW
          have f_zn := sw_zn hW
          have f_zl := sw_zl hW
          have f_zr := sw_zr hW
          have f_zq := sw_zq hW
          refine lv_iload hx hb dL_quotes_373 (lv_at hl 0 rfl) ?_
          refine W.widen (k := 2) (n := 12) (Nat.le_of_ble_eq_true rfl) (Nat.le_of_ble_eq_true rfl) ?_
          refine g_zret (r := (gb (true))) hx hb hr hlocks w372_14 dL_quotes_375 (gb_narrow _) hS hP hD ?_
          exact ⟨rfl, Inv.mk hW (hp.confirm hit9 ho9 hnw5) (he.up.c (Or.inr hz9))⟩
    · refine lv_aload hx hb dL_quotes_209 (lv_at hl 9 rfl) ?_
      refine lv_iload hx hb dL_quotes_211 (lv_at hl 2 rfl) ?_
      refine g_nald hx hb hE hP _ f0_zc (by omega) (by decide) dL_quotes_213 ?_
      have bd_213_15 := b_zc (12 * nw + 3 * it + o)
      refine g_if_ne (tgt := 221) hx hb (by omega) dL_quotes_214 (by decide) (fun c_214 => ?_) (fun c_214 => ?_)
      · refine lv_iconst (v := nI 0) hx hb dL_quotes_221 (by decide) ?_
        refine lv_istore (lv' := [(15, .int (nI (0))), (14, .int (nI (gr))), (13, .int (nI (ce))), (12, .int (nI (12 * nw + 3 * it + o))), (11, .int (nI (o))), (10, .int (nI (it))), (0, .ref (ad 1)), (1, .int (zv)), (2, .int (yv)), (3, .ref (ad 30)), (4, .ref (ad 31)), (5, .ref (ad 32)), (6, .ref (ad 34)), (7, .ref (ad 35)), (8, .ref (ad 36)), (9, .ref (ad 41))]) hx hb dL_quotes_222 hl (by decide) rfl (fun ls hl => ?_)
        refine lv_iload hx hb dL_quotes_224 (lv_at hl 0 rfl) ?_
        refine g_if_eq (tgt := 251) hx hb (by omega) dL_quotes_226 (by decide) (fun c_226 => ?_) (fun c_226 => absurd c_226 (by decide))
        refine lv_aload_n hx hb dL_quotes_251 rfl (lv_at hl 6 rfl) ?_
        refine lv_iconst (v := nI 0) hx hb dL_quotes_252 (by decide) ?_
        refine lv_iload hx hb dL_quotes_253 (lv_at hl 5 rfl) ?_
        refine lv_iload hx hb dL_quotes_255 (lv_at hl 4 rfl) ?_
        refine gc_S_i (As := [.int (nI (o))]) (rest := [.int (nI (it)), .int (nI (0)), .ref (ad 1)]) (c_L_outlet l ho9) ⟨hx, hb, hml, hown, hts⟩ (va_cwS 1 hts gL_quotes_L_outlet rfl rfl rfl (by decide +kernel) ⟨Nat.le_of_ble_eq_true rfl, Nat.le_of_ble_eq_true rfl⟩) hE hP hD hS hA rfl rfl hl.1 (Nat.le_of_ble_eq_true rfl) dL_quotes_257 ⟨Nat.le_of_ble_eq_true rfl, Nat.le_of_ble_eq_true rfl⟩ (fun r_257 u_257 H locs hP hD hS q_257 => ?_)
        subst q_257
        refine lv_iload hx hb dL_quotes_260 (lv_at hl 2 rfl) ?_
        refine lv_iload hx hb dL_quotes_262 (lv_at hl 1 rfl) ?_
        have hsn : (Sn it).testBit (nw % 12) = true := by rw [Nat.mod_eq_of_lt (show nw < 12 by omega), Nat.testBit_eq_decide_div_mod_eq]; exact decide_eq_true (by omega)
        have hz9 : 0 < zc (12 * nw + 3 * it + o) := c_214
        refine gcz_S_i (As := [.ref (ad 1), .int (nI (0)), .int (nI (it)), .int (nI (oo (o))), .int (nI (ce)), .int (nI (gr))]) (rest := []) (ky_quote l hW hp hfl hit9 ho4 hce kce hgr kgr hnw5 hsn (by rw [← a1]; exact c_214)) ⟨hx, hb, hml, hown, hts⟩ (vx_cwSW 6 hts gL_quotes_L_calls rfl rfl rfl (by decide +kernel) ⟨Nat.le_of_ble_eq_true rfl, Nat.le_of_ble_eq_true rfl⟩) hE hZ hP hD hS hA rfl rfl hl.1 (Nat.le_of_ble_eq_true rfl) dL_quotes_264 ⟨Nat.le_of_ble_eq_true rfl, Nat.le_of_ble_eq_true rfl⟩ (fun r_264_16 u_264_16 H locs hP hD hS q_264_16 => ?_)
        obtain ⟨q9, hW⟩ := q_264_16
        subst q9
        obtain ⟨fs9, f_off⟩ := sw_off hW
        have f_zi := sw_zi hW
        have f_zc := sw_zc hW
        have f_zg := sw_zg hW
        have f_zn := sw_zn hW
        have f_zl := sw_zl hW
        have f_zr := sw_zr hW
        have f_zq := sw_zq hW
        refine lv_iload hx hb dL_quotes_267 (lv_at hl 0 rfl) ?_
        refine g_if_eq (tgt := 279) hx hb (by omega) dL_quotes_269 (by decide) (fun c_269 => ?_) (fun c_269 => absurd c_269 (by decide))
        refine lv_sipush (v := (-1003)) hx hb dL_quotes_279 (by decide) ?_
        refine lv_icmp_ne (tgt := 289) hx hb dL_quotes_282 (by decide) (fun c_282 => absurd c_282 (fun z => z (by decide))) (fun c_282 => ?_)
        refine lv_iconst (v := nI 1) hx hb dL_quotes_285 (by decide) ?_
        refine lv_goto (tgt := 290) hx hb dL_quotes_286 (by decide) ?_
        refine lv_istore (lv' := [(16, .int (nI (1))), (15, .int (nI (0))), (14, .int (nI (gr))), (13, .int (nI (ce))), (12, .int (nI (12 * nw + 3 * it + o))), (11, .int (nI (o))), (10, .int (nI (it))), (0, .ref (ad 1)), (1, .int (zv)), (2, .int (yv)), (3, .ref (ad 30)), (4, .ref (ad 31)), (5, .ref (ad 32)), (6, .ref (ad 34)), (7, .ref (ad 35)), (8, .ref (ad 36)), (9, .ref (ad 41))]) hx hb dL_quotes_290 hl (by decide) rfl (fun ls hl => ?_)
        refine lv_iload hx hb dL_quotes_292 (lv_at hl 0 rfl) ?_
        refine g_if_eq (tgt := 373) hx hb (by omega) dL_quotes_294 (by decide) (fun c_294 => absurd c_294 (by decide)) (fun c_294 => ?_)
        refine lv_iload_n hx hb dL_quotes_297 rfl (lv_at hl 9 rfl) ?_
        refine lv_bipush (v := nI 7) hx hb dL_quotes_298 (by decide) ?_
        refine g_ishr hx hb dL_quotes_300 rfl ?_
        refine lv_iconst (v := nI 3) hx hb dL_quotes_301 (by decide) ?_
        refine gc_S_i (As := [.int ((yv >>> (nI 7 &&& 31))), .int (nI (3))]) (rest := []) (c_L_low l (by decide) (by decide)) ⟨hx, hb, hml, hown, hts⟩ (va_cwS 2 hts gL_quotes_L_low rfl rfl rfl (by decide +kernel) ⟨Nat.le_of_ble_eq_true rfl, Nat.le_of_ble_eq_true rfl⟩) hE hP hD hS hA rfl rfl hl.1 (Nat.le_of_ble_eq_true rfl) dL_quotes_302 ⟨Nat.le_of_ble_eq_true rfl, Nat.le_of_ble_eq_true rfl⟩ (fun r_302 u_302 H locs hP hD hS q_302 => ?_)
        subst q_302
        refine g_if_ne (tgt := 373) hx hb (by omega) dL_quotes_305 (by decide) (fun c_305 => ?_) (fun c_305 => ?_)
        · refine lv_iload hx hb dL_quotes_373 (lv_at hl 0 rfl) ?_
          refine W.widen (k := 2) (n := 12) (Nat.le_of_ble_eq_true rfl) (Nat.le_of_ble_eq_true rfl) ?_
          refine g_zret (r := (gb (true))) hx hb hr hlocks u_264_16 dL_quotes_375 (gb_narrow _) hS hP hD ?_
          exact ⟨rfl, Inv.mk hW hp he.up⟩
        · refine lv_aload hx hb dL_quotes_308 (lv_at hl 13 rfl) ?_
          refine lv_iload hx hb dL_quotes_310 (lv_at hl 4 rfl) ?_
          refine g_nald hx hb hE hP _ f_zn (by omega) (by decide) dL_quotes_312 ?_
          have bd_312_17 := b_zn (12 * nw + 3 * it + o)
          refine lv_istore (lv' := [(17, .int (nI (zn (12 * nw + 3 * it + o)))), (16, .int (nI (1))), (15, .int (nI (0))), (14, .int (nI (gr))), (13, .int (nI (ce))), (12, .int (nI (12 * nw + 3 * it + o))), (11, .int (nI (o))), (10, .int (nI (it))), (0, .ref (ad 1)), (1, .int (zv)), (2, .int (yv)), (3, .ref (ad 30)), (4, .ref (ad 31)), (5, .ref (ad 32)), (6, .ref (ad 34)), (7, .ref (ad 35)), (8, .ref (ad 36)), (9, .ref (ad 41))]) hx hb dL_quotes_313 hl (by decide) rfl (fun ls hl => ?_)
          refine lv_aload_n hx hb dL_quotes_315 rfl (lv_at hl 8 rfl) ?_
          refine lv_iconst (v := nI 1) hx hb dL_quotes_316 (by decide) ?_
          refine lv_iload hx hb dL_quotes_317 (lv_at hl 7 rfl) ?_
          refine lv_iload hx hb dL_quotes_319 (lv_at hl 6 rfl) ?_
          refine gc_S_i (As := [.int (nI (o))]) (rest := [.int (nI (it)), .int (nI (1)), .ref (ad 1)]) (c_L_outlet l ho9) ⟨hx, hb, hml, hown, hts⟩ (va_cwS 1 hts gL_quotes_L_outlet rfl rfl rfl (by decide +kernel) ⟨Nat.le_of_ble_eq_true rfl, Nat.le_of_ble_eq_true rfl⟩) hE hP hD hS hA rfl rfl hl.1 (Nat.le_of_ble_eq_true rfl) dL_quotes_321 ⟨Nat.le_of_ble_eq_true rfl, Nat.le_of_ble_eq_true rfl⟩ (fun r_321 u_321 H locs hP hD hS q_321 => ?_)
          subst q_321
          refine lv_iconst (v := nI 0) hx hb dL_quotes_324 (by decide) ?_
          refine lv_iconst (v := nI 0) hx hb dL_quotes_325 (by decide) ?_
          refine gcz_S_i (As := [.ref (ad 1), .int (nI (1)), .int (nI (it)), .int (nI (oo (o))), .int (nI (0)), .int (nI (0))]) (rest := []) (k_confirm l hW hp hfl hit9 ho4 hnw5 (by rw [← a1]; exact hz9)) ⟨hx, hb, hml, hown, hts⟩ (vx_cwSW 6 hts gL_quotes_L_calls rfl rfl rfl (by decide +kernel) ⟨Nat.le_of_ble_eq_true rfl, Nat.le_of_ble_eq_true rfl⟩) hE hZ hP hD hS hA rfl rfl hl.1 (Nat.le_of_ble_eq_true rfl) dL_quotes_326 ⟨Nat.le_of_ble_eq_true rfl, Nat.le_of_ble_eq_true rfl⟩ (fun r_326_18 u_326_18 H locs hP hD hS q_326_18 => ?_)
          obtain ⟨q9, hW⟩ := q_326_18
          have q9 := q9.trans (gb_zn a5 (b_zn (12 * nw + 3 * it + o)))
          subst q9
          obtain ⟨fs9, f_off⟩ := sw_off hW
          have f_zi := sw_zi hW
          have f_zc := sw_zc hW
          have f_zg := sw_zg hW
          have f_zn := sw_zn hW
          have f_zl := sw_zl hW
          have f_zr := sw_zr hW
          have f_zq := sw_zq hW
          refine lv_aload hx hb dL_quotes_329 (lv_at hl 12 rfl) ?_
          refine lv_iload hx hb dL_quotes_331 (lv_at hl 5 rfl) ?_
          refine g_nald hx hb hE hP _ f_zc (by omega) (by decide) dL_quotes_333 ?_
          have bd_333_19 := b_zc (12 * nw + 3 * it + o)
          refine g_if_ne (tgt := 343) hx hb (by omega) dL_quotes_334 (by decide) (fun c_334 => ?_) (fun c_334 => absurd c_334 (by omega))
          refine lv_iload hx hb dL_quotes_343 (lv_at hl 0 rfl) ?_
          refine g_icmp_ne (tgt := 352) hx hb (by omega) (by omega) dL_quotes_345 (by decide) (fun c_345 => absurd c_345 (fun z => z rfl)) (fun c_345 => ?_)
          refine lv_iconst (v := nI 1) hx hb dL_quotes_348 (by decide) ?_
          refine lv_goto (tgt := 353) hx hb dL_quotes_349 (by decide) ?_
          refine lv_istore (lv' := [(16, .int (nI (1))), (17, .int (nI (zn (12 * nw + 3 * it + o)))), (15, .int (nI (0))), (14, .int (nI (gr))), (13, .int (nI (ce))), (12, .int (nI (12 * nw + 3 * it + o))), (11, .int (nI (o))), (10, .int (nI (it))), (0, .ref (ad 1)), (1, .int (zv)), (2, .int (yv)), (3, .ref (ad 30)), (4, .ref (ad 31)), (5, .ref (ad 32)), (6, .ref (ad 34)), (7, .ref (ad 35)), (8, .ref (ad 36)), (9, .ref (ad 41))]) hx hb dL_quotes_353 hl (by decide) rfl (fun ls hl => ?_)
          refine lv_aload hx hb dL_quotes_355 (lv_at hl 14 rfl) ?_
          refine lv_iload hx hb dL_quotes_357 (lv_at hl 5 rfl) ?_
          refine lv_aload hx hb dL_quotes_359 (lv_at hl 12 rfl) ?_
          refine lv_iload hx hb dL_quotes_361 (lv_at hl 5 rfl) ?_
          refine g_nald hx hb hE hP _ f_zc (by omega) (by decide) dL_quotes_363 ?_
          have bd_363_20 := b_zc (12 * nw + 3 * it + o)
          refine g_if_ne (tgt := 371) hx hb (by omega) dL_quotes_364 (by decide) (fun c_364 => ?_) (fun c_364 => absurd c_364 (by omega))
          refine lv_iconst (v := nI 1) hx hb dL_quotes_371 (by decide) ?_
          refine g_nast hx hb hE hP hD hS _ f_zn (by omega) (by decide) dL_quotes_372 (fun H locs hP hD hS => ?_)
          refine g_fw (sw_set_zn (z9 := vf_upd zn (12 * nw + 3 * it + o) (1)) hW) hP hD (fun w372_21 hW hP hD => ?_)
          have b_zn := upd_bd (k := 12 * nw + 3 * it + o) (x := 1) b_zn (by decide)
          obtain ⟨fs9, f_off⟩ := sw_off hW
          have f_zi := sw_zi hW
          have f_zc := sw_zc hW
          have f_zg := sw_zg hW
          have f_zn := sw_zn hW
          have f_zl := sw_zl hW
          have f_zr := sw_zr hW
          have f_zq := sw_zq hW
          refine lv_iload hx hb dL_quotes_373 (lv_at hl 0 rfl) ?_
          refine W.widen (k := 2) (n := 12) (Nat.le_of_ble_eq_true rfl) (Nat.le_of_ble_eq_true rfl) ?_
          refine g_zret (r := (gb (true))) hx hb hr hlocks w372_21 dL_quotes_375 (gb_narrow _) hS hP hD ?_
          exact ⟨rfl, Inv.mk hW (hp.confirm hit9 ho9 hnw5) (he.up.c (Or.inr hz9))⟩
      · refine lv_iconst (v := nI 1) hx hb dL_quotes_217 (by decide) ?_
        refine lv_goto (tgt := 222) hx hb dL_quotes_218 (by decide) ?_
        refine lv_istore (lv' := [(15, .int (nI (1))), (14, .int (nI (gr))), (13, .int (nI (ce))), (12, .int (nI (12 * nw + 3 * it + o))), (11, .int (nI (o))), (10, .int (nI (it))), (0, .ref (ad 1)), (1, .int (zv)), (2, .int (yv)), (3, .ref (ad 30)), (4, .ref (ad 31)), (5, .ref (ad 32)), (6, .ref (ad 34)), (7, .ref (ad 35)), (8, .ref (ad 36)), (9, .ref (ad 41))]) hx hb dL_quotes_222 hl (by decide) rfl (fun ls hl => ?_)
        refine lv_iload hx hb dL_quotes_224 (lv_at hl 0 rfl) ?_
        refine g_if_eq (tgt := 251) hx hb (by omega) dL_quotes_226 (by decide) (fun c_226 => absurd c_226 (by decide)) (fun c_226 => ?_)
        refine lv_aload hx hb dL_quotes_229 (lv_at hl 10 rfl) ?_
        refine lv_iload hx hb dL_quotes_231 (lv_at hl 3 rfl) ?_
        refine lv_iload hx hb dL_quotes_233 (lv_at hl 2 rfl) ?_
        refine g_nast hx hb hE hP hD hS _ f0_zc (by omega) (by decide) dL_quotes_235 (fun H locs hP hD hS => ?_)
        refine g_fw (sw_set_zc (z9 := vf_upd zc (12 * nw + 3 * it + o) (ce)) hW) hP hD (fun w235_22 hW hP hD => ?_)
        have b_zc := upd_bd (k := 12 * nw + 3 * it + o) (x := ce) b_zc kce
        obtain ⟨fs9, f_off⟩ := sw_off hW
        have f_zi := sw_zi hW
        have f_zc := sw_zc hW
        have f_zg := sw_zg hW
        have f_zn := sw_zn hW
        have f_zl := sw_zl hW
        have f_zr := sw_zr hW
        have f_zq := sw_zq hW
        refine lv_aload hx hb dL_quotes_236 (lv_at hl 11 rfl) ?_
        refine lv_iload hx hb dL_quotes_238 (lv_at hl 3 rfl) ?_
        refine lv_iload hx hb dL_quotes_240 (lv_at hl 1 rfl) ?_
        refine g_nast hx hb hE hP hD hS _ f_zg (by omega) (by decide) dL_quotes_242 (fun H locs hP hD hS => ?_)
        refine g_fw (sw_set_zg (z9 := vf_upd zg (12 * nw + 3 * it + o) (gr)) hW) hP hD (fun w242_23 hW hP hD => ?_)
        have b_zg := upd_bd (k := 12 * nw + 3 * it + o) (x := gr) b_zg kgr
        obtain ⟨fs9, f_off⟩ := sw_off hW
        have f_zi := sw_zi hW
        have f_zc := sw_zc hW
        have f_zg := sw_zg hW
        have f_zn := sw_zn hW
        have f_zl := sw_zl hW
        have f_zr := sw_zr hW
        have f_zq := sw_zq hW
        refine lv_aload hx hb dL_quotes_243 (lv_at hl 15 rfl) ?_
        refine lv_iconst (v := nI 2) hx hb dL_quotes_245 (by decide) ?_
        refine lv_dup2_11 hx hb dL_quotes_246 rfl rfl ?_
        refine g_nald hx hb hE hP _ f_zq (by omega) (by decide) dL_quotes_247 ?_
        have bd_247_24 := b_zq (2)
        refine g_iv (v' := nI (qn)) (congrArg nI (hq.2.2.1)) ?_
        refine lv_iconst (v := nI 1) hx hb dL_quotes_248 (by decide) ?_
        refine g_iadd hx hb dL_quotes_249 (nI_add _ _) ?_
        refine g_nast hx hb hE hP hD hS _ f_zq (by omega) (by decide) dL_quotes_250 (fun H locs hP hD hS => ?_)
        refine g_fw (sw_set_zq (z9 := vf_upd zq (2) (qn + 1)) hW) hP hD (fun w250_25 hW hP hD => ?_)
        have b_zq := upd_bd (k := 2) (x := qn + 1) b_zq (by omega)
        obtain ⟨fs9, f_off⟩ := sw_off hW
        have f_zi := sw_zi hW
        have f_zc := sw_zc hW
        have f_zg := sw_zg hW
        have f_zn := sw_zn hW
        have f_zl := sw_zl hW
        have f_zr := sw_zr hW
        have f_zq := sw_zq hW
        refine lv_aload_n hx hb dL_quotes_251 rfl (lv_at hl 6 rfl) ?_
        refine lv_iconst (v := nI 0) hx hb dL_quotes_252 (by decide) ?_
        refine lv_iload hx hb dL_quotes_253 (lv_at hl 5 rfl) ?_
        refine lv_iload hx hb dL_quotes_255 (lv_at hl 4 rfl) ?_
        refine gc_S_i (As := [.int (nI (o))]) (rest := [.int (nI (it)), .int (nI (0)), .ref (ad 1)]) (c_L_outlet l ho9) ⟨hx, hb, hml, hown, hts⟩ (va_cwS 1 hts gL_quotes_L_outlet rfl rfl rfl (by decide +kernel) ⟨Nat.le_of_ble_eq_true rfl, Nat.le_of_ble_eq_true rfl⟩) hE hP hD hS hA rfl rfl hl.1 (Nat.le_of_ble_eq_true rfl) dL_quotes_257 ⟨Nat.le_of_ble_eq_true rfl, Nat.le_of_ble_eq_true rfl⟩ (fun r_257 u_257 H locs hP hD hS q_257 => ?_)
        subst q_257
        refine lv_iload hx hb dL_quotes_260 (lv_at hl 2 rfl) ?_
        refine lv_iload hx hb dL_quotes_262 (lv_at hl 1 rfl) ?_
        have hsn : (Sn it).testBit (nw % 12) = true := by rw [Nat.mod_eq_of_lt (show nw < 12 by omega), Nat.testBit_eq_decide_div_mod_eq]; exact decide_eq_true (by omega)
        have hnq : cents (nw * 48 + it * 4 + oo o) = 0 := a1.symm.trans c_214
        have hp2 := hp.quote hit9 ho9 hnw5 hce kce hgr kgr hnq (by omega)
        refine gcz_S_i (As := [.ref (ad 1), .int (nI (0)), .int (nI (it)), .int (nI (oo (o))), .int (nI (ce)), .int (nI (gr))]) (rest := []) (k_quote l hW hp hfl hit9 ho4 hce kce hgr kgr hnw5 hsn hnq) ⟨hx, hb, hml, hown, hts⟩ (vx_cwSW 6 hts gL_quotes_L_calls rfl rfl rfl (by decide +kernel) ⟨Nat.le_of_ble_eq_true rfl, Nat.le_of_ble_eq_true rfl⟩) hE hZ hP hD hS hA rfl rfl hl.1 (Nat.le_of_ble_eq_true rfl) dL_quotes_264 ⟨Nat.le_of_ble_eq_true rfl, Nat.le_of_ble_eq_true rfl⟩ (fun r_264_26 u_264_26 H locs hP hD hS q_264_26 => ?_)
        obtain ⟨q9, hW⟩ := q_264_26
        subst q9
        obtain ⟨fs9, f_off⟩ := sw_off hW
        have f_zi := sw_zi hW
        have f_zc := sw_zc hW
        have f_zg := sw_zg hW
        have f_zn := sw_zn hW
        have f_zl := sw_zl hW
        have f_zr := sw_zr hW
        have f_zq := sw_zq hW
        refine lv_iload hx hb dL_quotes_267 (lv_at hl 0 rfl) ?_
        refine g_if_eq (tgt := 279) hx hb (by omega) dL_quotes_269 (by decide) (fun c_269 => absurd c_269 (by decide)) (fun c_269 => ?_)
        refine lv_aload hx hb dL_quotes_272 (lv_at hl 15 rfl) ?_
        refine lv_iconst (v := nI 2) hx hb dL_quotes_274 (by decide) ?_
        refine g_nald hx hb hE hP _ f_zq (by omega) (by decide) dL_quotes_275 ?_
        have bd_275_27 := b_zq (2)
        refine g_iv (v' := nI (qn + 1)) (congrArg nI (upd_eq)) ?_
        refine lv_goto (tgt := 282) hx hb dL_quotes_276 (by decide) ?_
        refine g_icmp_ne (tgt := 289) hx hb (by omega) (by omega) dL_quotes_282 (by decide) (fun c_282 => absurd c_282 (fun z => z rfl)) (fun c_282 => ?_)
        refine lv_iconst (v := nI 1) hx hb dL_quotes_285 (by decide) ?_
        refine lv_goto (tgt := 290) hx hb dL_quotes_286 (by decide) ?_
        refine lv_istore (lv' := [(16, .int (nI (1))), (15, .int (nI (1))), (14, .int (nI (gr))), (13, .int (nI (ce))), (12, .int (nI (12 * nw + 3 * it + o))), (11, .int (nI (o))), (10, .int (nI (it))), (0, .ref (ad 1)), (1, .int (zv)), (2, .int (yv)), (3, .ref (ad 30)), (4, .ref (ad 31)), (5, .ref (ad 32)), (6, .ref (ad 34)), (7, .ref (ad 35)), (8, .ref (ad 36)), (9, .ref (ad 41))]) hx hb dL_quotes_290 hl (by decide) rfl (fun ls hl => ?_)
        refine lv_iload hx hb dL_quotes_292 (lv_at hl 0 rfl) ?_
        refine g_if_eq (tgt := 373) hx hb (by omega) dL_quotes_294 (by decide) (fun c_294 => absurd c_294 (by decide)) (fun c_294 => ?_)
        refine lv_iload_n hx hb dL_quotes_297 rfl (lv_at hl 9 rfl) ?_
        refine lv_bipush (v := nI 7) hx hb dL_quotes_298 (by decide) ?_
        refine g_ishr hx hb dL_quotes_300 rfl ?_
        refine lv_iconst (v := nI 3) hx hb dL_quotes_301 (by decide) ?_
        refine gc_S_i (As := [.int ((yv >>> (nI 7 &&& 31))), .int (nI (3))]) (rest := []) (c_L_low l (by decide) (by decide)) ⟨hx, hb, hml, hown, hts⟩ (va_cwS 2 hts gL_quotes_L_low rfl rfl rfl (by decide +kernel) ⟨Nat.le_of_ble_eq_true rfl, Nat.le_of_ble_eq_true rfl⟩) hE hP hD hS hA rfl rfl hl.1 (Nat.le_of_ble_eq_true rfl) dL_quotes_302 ⟨Nat.le_of_ble_eq_true rfl, Nat.le_of_ble_eq_true rfl⟩ (fun r_302 u_302 H locs hP hD hS q_302 => ?_)
        subst q_302
        refine g_if_ne (tgt := 373) hx hb (by omega) dL_quotes_305 (by decide) (fun c_305 => ?_) (fun c_305 => ?_)
        · refine lv_iload hx hb dL_quotes_373 (lv_at hl 0 rfl) ?_
          refine W.widen (k := 2) (n := 12) (Nat.le_of_ble_eq_true rfl) (Nat.le_of_ble_eq_true rfl) ?_
          refine g_zret (r := (gb (true))) hx hb hr hlocks u_264_26 dL_quotes_375 (gb_narrow _) hS hP hD ?_
          exact ⟨rfl, Inv.mk hW hp2 (he.q hce)⟩
        · refine lv_aload hx hb dL_quotes_308 (lv_at hl 13 rfl) ?_
          refine lv_iload hx hb dL_quotes_310 (lv_at hl 4 rfl) ?_
          refine g_nald hx hb hE hP _ f_zn (by omega) (by decide) dL_quotes_312 ?_
          have bd_312_28 := b_zn (12 * nw + 3 * it + o)
          refine lv_istore (lv' := [(17, .int (nI (zn (12 * nw + 3 * it + o)))), (16, .int (nI (1))), (15, .int (nI (1))), (14, .int (nI (gr))), (13, .int (nI (ce))), (12, .int (nI (12 * nw + 3 * it + o))), (11, .int (nI (o))), (10, .int (nI (it))), (0, .ref (ad 1)), (1, .int (zv)), (2, .int (yv)), (3, .ref (ad 30)), (4, .ref (ad 31)), (5, .ref (ad 32)), (6, .ref (ad 34)), (7, .ref (ad 35)), (8, .ref (ad 36)), (9, .ref (ad 41))]) hx hb dL_quotes_313 hl (by decide) rfl (fun ls hl => ?_)
          refine lv_aload_n hx hb dL_quotes_315 rfl (lv_at hl 8 rfl) ?_
          refine lv_iconst (v := nI 1) hx hb dL_quotes_316 (by decide) ?_
          refine lv_iload hx hb dL_quotes_317 (lv_at hl 7 rfl) ?_
          refine lv_iload hx hb dL_quotes_319 (lv_at hl 6 rfl) ?_
          refine gc_S_i (As := [.int (nI (o))]) (rest := [.int (nI (it)), .int (nI (1)), .ref (ad 1)]) (c_L_outlet l ho9) ⟨hx, hb, hml, hown, hts⟩ (va_cwS 1 hts gL_quotes_L_outlet rfl rfl rfl (by decide +kernel) ⟨Nat.le_of_ble_eq_true rfl, Nat.le_of_ble_eq_true rfl⟩) hE hP hD hS hA rfl rfl hl.1 (Nat.le_of_ble_eq_true rfl) dL_quotes_321 ⟨Nat.le_of_ble_eq_true rfl, Nat.le_of_ble_eq_true rfl⟩ (fun r_321 u_321 H locs hP hD hS q_321 => ?_)
          subst q_321
          refine lv_iconst (v := nI 0) hx hb dL_quotes_324 (by decide) ?_
          refine lv_iconst (v := nI 0) hx hb dL_quotes_325 (by decide) ?_
          refine gcz_S_i (As := [.ref (ad 1), .int (nI (1)), .int (nI (it)), .int (nI (oo (o))), .int (nI (0)), .int (nI (0))]) (rest := []) (k_confirm l hW hp2 hfl hit9 ho4 hnw5 (by rw [upd_eq]; omega)) ⟨hx, hb, hml, hown, hts⟩ (vx_cwSW 6 hts gL_quotes_L_calls rfl rfl rfl (by decide +kernel) ⟨Nat.le_of_ble_eq_true rfl, Nat.le_of_ble_eq_true rfl⟩) hE hZ hP hD hS hA rfl rfl hl.1 (Nat.le_of_ble_eq_true rfl) dL_quotes_326 ⟨Nat.le_of_ble_eq_true rfl, Nat.le_of_ble_eq_true rfl⟩ (fun r_326_29 u_326_29 H locs hP hD hS q_326_29 => ?_)
          obtain ⟨q9, hW⟩ := q_326_29
          have q9 := q9.trans (gb_zn a5 (b_zn (12 * nw + 3 * it + o)))
          subst q9
          obtain ⟨fs9, f_off⟩ := sw_off hW
          have f_zi := sw_zi hW
          have f_zc := sw_zc hW
          have f_zg := sw_zg hW
          have f_zn := sw_zn hW
          have f_zl := sw_zl hW
          have f_zr := sw_zr hW
          have f_zq := sw_zq hW
          refine lv_aload hx hb dL_quotes_329 (lv_at hl 12 rfl) ?_
          refine lv_iload hx hb dL_quotes_331 (lv_at hl 5 rfl) ?_
          refine g_nald hx hb hE hP _ f_zc (by omega) (by decide) dL_quotes_333 ?_
          have bd_333_30 := b_zc (12 * nw + 3 * it + o)
          refine g_iv (v' := nI (ce)) (congrArg nI (upd_eq)) ?_
          refine g_if_ne (tgt := 343) hx hb (by omega) dL_quotes_334 (by decide) (fun c_334 => ?_) (fun c_334 => absurd c_334 (by omega))
          refine lv_iload hx hb dL_quotes_343 (lv_at hl 0 rfl) ?_
          refine g_icmp_ne (tgt := 352) hx hb (by omega) (by omega) dL_quotes_345 (by decide) (fun c_345 => absurd c_345 (fun z => z rfl)) (fun c_345 => ?_)
          refine lv_iconst (v := nI 1) hx hb dL_quotes_348 (by decide) ?_
          refine lv_goto (tgt := 353) hx hb dL_quotes_349 (by decide) ?_
          refine lv_istore (lv' := [(16, .int (nI (1))), (17, .int (nI (zn (12 * nw + 3 * it + o)))), (15, .int (nI (1))), (14, .int (nI (gr))), (13, .int (nI (ce))), (12, .int (nI (12 * nw + 3 * it + o))), (11, .int (nI (o))), (10, .int (nI (it))), (0, .ref (ad 1)), (1, .int (zv)), (2, .int (yv)), (3, .ref (ad 30)), (4, .ref (ad 31)), (5, .ref (ad 32)), (6, .ref (ad 34)), (7, .ref (ad 35)), (8, .ref (ad 36)), (9, .ref (ad 41))]) hx hb dL_quotes_353 hl (by decide) rfl (fun ls hl => ?_)
          refine lv_aload hx hb dL_quotes_355 (lv_at hl 14 rfl) ?_
          refine lv_iload hx hb dL_quotes_357 (lv_at hl 5 rfl) ?_
          refine lv_aload hx hb dL_quotes_359 (lv_at hl 12 rfl) ?_
          refine lv_iload hx hb dL_quotes_361 (lv_at hl 5 rfl) ?_
          refine g_nald hx hb hE hP _ f_zc (by omega) (by decide) dL_quotes_363 ?_
          have bd_363_31 := b_zc (12 * nw + 3 * it + o)
          refine g_iv (v' := nI (ce)) (congrArg nI (upd_eq)) ?_
          refine g_if_ne (tgt := 371) hx hb (by omega) dL_quotes_364 (by decide) (fun c_364 => ?_) (fun c_364 => absurd c_364 (by omega))
          refine lv_iconst (v := nI 1) hx hb dL_quotes_371 (by decide) ?_
          refine g_nast hx hb hE hP hD hS _ f_zn (by omega) (by decide) dL_quotes_372 (fun H locs hP hD hS => ?_)
          refine g_fw (sw_set_zn (z9 := vf_upd zn (12 * nw + 3 * it + o) (1)) hW) hP hD (fun w372_32 hW hP hD => ?_)
          have b_zn := upd_bd (k := 12 * nw + 3 * it + o) (x := 1) b_zn (by decide)
          obtain ⟨fs9, f_off⟩ := sw_off hW
          have f_zi := sw_zi hW
          have f_zc := sw_zc hW
          have f_zg := sw_zg hW
          have f_zn := sw_zn hW
          have f_zl := sw_zl hW
          have f_zr := sw_zr hW
          have f_zq := sw_zq hW
          refine lv_iload hx hb dL_quotes_373 (lv_at hl 0 rfl) ?_
          refine W.widen (k := 2) (n := 12) (Nat.le_of_ble_eq_true rfl) (Nat.le_of_ble_eq_true rfl) ?_
          refine g_zret (r := (gb (true))) hx hb hr hlocks w372_32 dL_quotes_375 (gb_narrow _) hS hP hD ?_
          exact ⟨rfl, Inv.mk hW (hp2.confirm hit9 ho9 hnw5) ((he.q hce).c (Or.inr (by rw [upd_eq]; omega)))⟩
  · refine lv_aload hx hb dL_quotes_111 (lv_at hl 14 rfl) ?_
    refine lv_iconst (v := nI 1) hx hb dL_quotes_113 (by decide) ?_
    refine g_nald hx hb hE hP _ f0_zq (by omega) (by decide) dL_quotes_114 ?_
    have bd_114_33 := b_zq (1)
    refine g_iv (v' := nI (nw)) (congrArg nI (hq.2.1)) ?_
    refine lv_iconst (v := nI 5) hx hb dL_quotes_115 (by decide) ?_
    refine g_icmp_ge (tgt := 131) hx hb (by omega) (by omega) dL_quotes_116 (by decide) (fun c_116 => absurd c_116 (by omega)) (fun c_116 => ?_)
    refine lv_aload hx hb dL_quotes_119 (lv_at hl 12 rfl) ?_
    refine lv_iload hx hb dL_quotes_121 (lv_at hl 2 rfl) ?_
    refine g_nald hx hb hE hP _ f0_zl (by omega) (by decide) dL_quotes_123 ?_
    have bd_123_34 := b_zl (12 * nw + 3 * it + o)
    refine g_if_ne (tgt := 131) hx hb (by omega) dL_quotes_124 (by decide) (fun c_124 => ?_) (fun c_124 => ?_)
    · refine lv_iconst (v := nI 0) hx hb dL_quotes_131 (by decide) ?_
      refine lv_istore (lv' := [(15, .int (nI (0))), (14, .int (nI (gr))), (13, .int (nI (ce))), (12, .int (nI (12 * nw + 3 * it + o))), (11, .int (nI (o))), (10, .int (nI (it))), (0, .ref (ad 1)), (1, .int (zv)), (2, .int (yv)), (3, .ref (ad 30)), (4, .ref (ad 31)), (5, .ref (ad 32)), (6, .ref (ad 34)), (7, .ref (ad 35)), (8, .ref (ad 36)), (9, .ref (ad 41))]) hx hb dL_quotes_132 hl (by decide) rfl (fun ls hl => ?_)
      refine lv_iload hx hb dL_quotes_134 (lv_at hl 0 rfl) ?_
      refine g_if_eq (tgt := 153) hx hb (by omega) dL_quotes_136 (by decide) (fun c_136 => ?_) (fun c_136 => absurd c_136 (by decide))
      refine lv_aload_n hx hb dL_quotes_153 rfl (lv_at hl 6 rfl) ?_
      refine lv_iconst (v := nI 2) hx hb dL_quotes_154 (by decide) ?_
      refine lv_iload hx hb dL_quotes_155 (lv_at hl 5 rfl) ?_
      refine lv_iload hx hb dL_quotes_157 (lv_at hl 4 rfl) ?_
      refine gc_S_i (As := [.int (nI (o))]) (rest := [.int (nI (it)), .int (nI (2)), .ref (ad 1)]) (c_L_outlet l ho9) ⟨hx, hb, hml, hown, hts⟩ (va_cwS 1 hts gL_quotes_L_outlet rfl rfl rfl (by decide +kernel) ⟨Nat.le_of_ble_eq_true rfl, Nat.le_of_ble_eq_true rfl⟩) hE hP hD hS hA rfl rfl hl.1 (Nat.le_of_ble_eq_true rfl) dL_quotes_159 ⟨Nat.le_of_ble_eq_true rfl, Nat.le_of_ble_eq_true rfl⟩ (fun r_159 u_159 H locs hP hD hS q_159 => ?_)
      subst q_159
      refine lv_iload hx hb dL_quotes_162 (lv_at hl 2 rfl) ?_
      refine lv_iload hx hb dL_quotes_164 (lv_at hl 1 rfl) ?_
      refine gcz_S_i (As := [.ref (ad 1), .int (nI (2)), .int (nI (it)), .int (nI (oo (o))), .int (nI (ce)), .int (nI (gr))]) (rest := []) (kx_link l hW hp hfl hit9 ho4 hce kce hgr kgr hnw5 (by rw [← a3]; exact c_124)) ⟨hx, hb, hml, hown, hts⟩ (vx_cwSW 6 hts gL_quotes_L_calls rfl rfl rfl (by decide +kernel) ⟨Nat.le_of_ble_eq_true rfl, Nat.le_of_ble_eq_true rfl⟩) hE hZ hP hD hS hA rfl rfl hl.1 (Nat.le_of_ble_eq_true rfl) dL_quotes_166 ⟨Nat.le_of_ble_eq_true rfl, Nat.le_of_ble_eq_true rfl⟩ (fun r_166_35 u_166_35 H locs hP hD hS q_166_35 => ?_)
      obtain ⟨q9, hW⟩ := q_166_35
      subst q9
      obtain ⟨fs9, f_off⟩ := sw_off hW
      have f_zi := sw_zi hW
      have f_zc := sw_zc hW
      have f_zg := sw_zg hW
      have f_zn := sw_zn hW
      have f_zl := sw_zl hW
      have f_zr := sw_zr hW
      have f_zq := sw_zq hW
      refine lv_iload hx hb dL_quotes_169 (lv_at hl 0 rfl) ?_
      refine g_if_eq (tgt := 178) hx hb (by omega) dL_quotes_171 (by decide) (fun c_171 => ?_) (fun c_171 => absurd c_171 (by decide))
      refine lv_sipush (v := (-1003)) hx hb dL_quotes_178 (by decide) ?_
      refine lv_icmp_ne (tgt := 188) hx hb dL_quotes_181 (by decide) (fun c_181 => absurd c_181 (fun z => z (by decide))) (fun c_181 => ?_)
      refine lv_iconst (v := nI 1) hx hb dL_quotes_184 (by decide) ?_
      refine lv_goto (tgt := 189) hx hb dL_quotes_185 (by decide) ?_
      refine W.widen (k := 2) (n := 12) (Nat.le_of_ble_eq_true rfl) (Nat.le_of_ble_eq_true rfl) ?_
      refine g_zret (r := (gb (true))) hx hb hr hlocks u_166_35 dL_quotes_189 (gb_narrow _) hS hP hD ?_
      exact ⟨rfl, Inv.mk hW hp he.up⟩
    · refine lv_iconst (v := nI 1) hx hb dL_quotes_127 (by decide) ?_
      refine lv_goto (tgt := 132) hx hb dL_quotes_128 (by decide) ?_
      refine lv_istore (lv' := [(15, .int (nI (1))), (14, .int (nI (gr))), (13, .int (nI (ce))), (12, .int (nI (12 * nw + 3 * it + o))), (11, .int (nI (o))), (10, .int (nI (it))), (0, .ref (ad 1)), (1, .int (zv)), (2, .int (yv)), (3, .ref (ad 30)), (4, .ref (ad 31)), (5, .ref (ad 32)), (6, .ref (ad 34)), (7, .ref (ad 35)), (8, .ref (ad 36)), (9, .ref (ad 41))]) hx hb dL_quotes_132 hl (by decide) rfl (fun ls hl => ?_)
      refine lv_iload hx hb dL_quotes_134 (lv_at hl 0 rfl) ?_
      refine g_if_eq (tgt := 153) hx hb (by omega) dL_quotes_136 (by decide) (fun c_136 => absurd c_136 (by decide)) (fun c_136 => ?_)
      refine lv_aload hx hb dL_quotes_139 (lv_at hl 13 rfl) ?_
      refine lv_iload hx hb dL_quotes_141 (lv_at hl 3 rfl) ?_
      refine lv_iload hx hb dL_quotes_143 (lv_at hl 2 rfl) ?_
      refine g_nast hx hb hE hP hD hS _ f0_zl (by omega) (by decide) dL_quotes_145 (fun H locs hP hD hS => ?_)
      refine g_fw (sw_set_zl (z9 := vf_upd zl (12 * nw + 3 * it + o) (ce)) hW) hP hD (fun w145_36 hW hP hD => ?_)
      have b_zl := upd_bd (k := 12 * nw + 3 * it + o) (x := ce) b_zl kce
      obtain ⟨fs9, f_off⟩ := sw_off hW
      have f_zi := sw_zi hW
      have f_zc := sw_zc hW
      have f_zg := sw_zg hW
      have f_zn := sw_zn hW
      have f_zl := sw_zl hW
      have f_zr := sw_zr hW
      have f_zq := sw_zq hW
      refine lv_aload hx hb dL_quotes_146 (lv_at hl 14 rfl) ?_
      refine lv_iload hx hb dL_quotes_148 (lv_at hl 3 rfl) ?_
      refine lv_iload hx hb dL_quotes_150 (lv_at hl 1 rfl) ?_
      refine g_nast hx hb hE hP hD hS _ f_zr (by omega) (by decide) dL_quotes_152 (fun H locs hP hD hS => ?_)
      refine g_fw (sw_set_zr (z9 := vf_upd zr (12 * nw + 3 * it + o) (gr)) hW) hP hD (fun w152_37 hW hP hD => ?_)
      have b_zr := upd_bd (k := 12 * nw + 3 * it + o) (x := gr) b_zr kgr
      obtain ⟨fs9, f_off⟩ := sw_off hW
      have f_zi := sw_zi hW
      have f_zc := sw_zc hW
      have f_zg := sw_zg hW
      have f_zn := sw_zn hW
      have f_zl := sw_zl hW
      have f_zr := sw_zr hW
      have f_zq := sw_zq hW
      refine lv_aload_n hx hb dL_quotes_153 rfl (lv_at hl 6 rfl) ?_
      refine lv_iconst (v := nI 2) hx hb dL_quotes_154 (by decide) ?_
      refine lv_iload hx hb dL_quotes_155 (lv_at hl 5 rfl) ?_
      refine lv_iload hx hb dL_quotes_157 (lv_at hl 4 rfl) ?_
      refine gc_S_i (As := [.int (nI (o))]) (rest := [.int (nI (it)), .int (nI (2)), .ref (ad 1)]) (c_L_outlet l ho9) ⟨hx, hb, hml, hown, hts⟩ (va_cwS 1 hts gL_quotes_L_outlet rfl rfl rfl (by decide +kernel) ⟨Nat.le_of_ble_eq_true rfl, Nat.le_of_ble_eq_true rfl⟩) hE hP hD hS hA rfl rfl hl.1 (Nat.le_of_ble_eq_true rfl) dL_quotes_159 ⟨Nat.le_of_ble_eq_true rfl, Nat.le_of_ble_eq_true rfl⟩ (fun r_159 u_159 H locs hP hD hS q_159 => ?_)
      subst q_159
      refine lv_iload hx hb dL_quotes_162 (lv_at hl 2 rfl) ?_
      refine lv_iload hx hb dL_quotes_164 (lv_at hl 1 rfl) ?_
      refine gcz_S_i (As := [.ref (ad 1), .int (nI (2)), .int (nI (it)), .int (nI (oo (o))), .int (nI (ce)), .int (nI (gr))]) (rest := []) (k_link l hW hp hfl hit9 ho4 hce kce hgr kgr hnw5 (a3.symm.trans c_124)) ⟨hx, hb, hml, hown, hts⟩ (vx_cwSW 6 hts gL_quotes_L_calls rfl rfl rfl (by decide +kernel) ⟨Nat.le_of_ble_eq_true rfl, Nat.le_of_ble_eq_true rfl⟩) hE hZ hP hD hS hA rfl rfl hl.1 (Nat.le_of_ble_eq_true rfl) dL_quotes_166 ⟨Nat.le_of_ble_eq_true rfl, Nat.le_of_ble_eq_true rfl⟩ (fun r_166_38 u_166_38 H locs hP hD hS q_166_38 => ?_)
      obtain ⟨q9, hW⟩ := q_166_38
      subst q9
      obtain ⟨fs9, f_off⟩ := sw_off hW
      have f_zi := sw_zi hW
      have f_zc := sw_zc hW
      have f_zg := sw_zg hW
      have f_zn := sw_zn hW
      have f_zl := sw_zl hW
      have f_zr := sw_zr hW
      have f_zq := sw_zq hW
      refine lv_iload hx hb dL_quotes_169 (lv_at hl 0 rfl) ?_
      refine g_if_eq (tgt := 178) hx hb (by omega) dL_quotes_171 (by decide) (fun c_171 => absurd c_171 (by decide)) (fun c_171 => ?_)
      refine lv_iconst (v := nI 0) hx hb dL_quotes_174 (by decide) ?_
      refine lv_goto (tgt := 181) hx hb dL_quotes_175 (by decide) ?_
      refine g_icmp_ne (tgt := 188) hx hb (by omega) (by omega) dL_quotes_181 (by decide) (fun c_181 => absurd c_181 (fun z => z rfl)) (fun c_181 => ?_)
      refine lv_iconst (v := nI 1) hx hb dL_quotes_184 (by decide) ?_
      refine lv_goto (tgt := 189) hx hb dL_quotes_185 (by decide) ?_
      refine W.widen (k := 2) (n := 12) (Nat.le_of_ble_eq_true rfl) (Nat.le_of_ble_eq_true rfl) ?_
      refine g_zret (r := (gb (true))) hx hb hr hlocks u_166_38 dL_quotes_189 (gb_narrow _) hS hP hD ?_
      exact ⟨rfl, Inv.mk hW (hp.link hit9 ho9 hnw5 hce kce hgr kgr) he.up⟩
