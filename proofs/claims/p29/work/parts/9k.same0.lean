/-! ahead of the law's comparison: the world's places, loops over worlds, the core, the doubts -/
theorem sw_zi {ws : va_W} {ad y : Nat → Nat} {nw : Nat} {n : Nat} {nc : Nat} {qn : Nat} {fq : Nat} {mc1 : Int32} {mc2 : Int32} {aita : Nat} {acta : Nat} {qe : Nat → Option Nat} {cents : Nat → Nat} {grams : Nat → Nat} {cf : Nat → Bool} {cc : Nat → Nat} {fx : Nat → Bool} {lc : Nat → Nat} {lg : Nat → Nat} {told : Nat → Nat} {adp : Nat → Nat} {shr : Nat → UInt64} {pr : Nat → UInt64} {rel : Nat → UInt64} {grp : Nat → UInt64} {idx : Nat → UInt64} {num : Nat → Nat} {zi : Nat → Nat} {zc : Nat → Nat} {zg : Nat → Nat} {zf : Nat → Nat} {zn : Nat → Nat} {zl : Nat → Nat} {zr : Nat → Nat} {ze : Nat → Nat} {zt : Nat → Nat} {za : Nat → Nat} {zw : Nat → Nat} {zq : Nat → Nat} {G : Nat → Nat} {M : Nat → Nat} {Sn : Nat → Nat} {fw : Nat → Nat} {lag : Nat → Nat} {trig : Nat → Nat} {fl : Nat → Bool} {fm : Nat → Nat} {cs : Nat → Nat × Nat × Nat × Nat} {pi : Nat} {pc : Nat} (h : SW ad y nw n nc qn fq mc1 mc2 aita acta qe cents grams cf cc fx lc lg told adp shr pr rel grp idx num zi zc zg zf zn zl zr ze zt za zw zq G M Sn fw lag trig fl fm cs pi pc ws) : ws[30]? = some (ad 30, eN y 12 zi) := by
  obtain ⟨_, _, _, _, _, _, _, _, _, rfl, -⟩ := h
  exact rfl
theorem sw_zc {ws : va_W} {ad y : Nat → Nat} {nw : Nat} {n : Nat} {nc : Nat} {qn : Nat} {fq : Nat} {mc1 : Int32} {mc2 : Int32} {aita : Nat} {acta : Nat} {qe : Nat → Option Nat} {cents : Nat → Nat} {grams : Nat → Nat} {cf : Nat → Bool} {cc : Nat → Nat} {fx : Nat → Bool} {lc : Nat → Nat} {lg : Nat → Nat} {told : Nat → Nat} {adp : Nat → Nat} {shr : Nat → UInt64} {pr : Nat → UInt64} {rel : Nat → UInt64} {grp : Nat → UInt64} {idx : Nat → UInt64} {num : Nat → Nat} {zi : Nat → Nat} {zc : Nat → Nat} {zg : Nat → Nat} {zf : Nat → Nat} {zn : Nat → Nat} {zl : Nat → Nat} {zr : Nat → Nat} {ze : Nat → Nat} {zt : Nat → Nat} {za : Nat → Nat} {zw : Nat → Nat} {zq : Nat → Nat} {G : Nat → Nat} {M : Nat → Nat} {Sn : Nat → Nat} {fw : Nat → Nat} {lag : Nat → Nat} {trig : Nat → Nat} {fl : Nat → Bool} {fm : Nat → Nat} {cs : Nat → Nat × Nat × Nat × Nat} {pi : Nat} {pc : Nat} (h : SW ad y nw n nc qn fq mc1 mc2 aita acta qe cents grams cf cc fx lc lg told adp shr pr rel grp idx num zi zc zg zf zn zl zr ze zt za zw zq G M Sn fw lag trig fl fm cs pi pc ws) : ws[31]? = some (ad 31, eN y 60 zc) := by
  obtain ⟨_, _, _, _, _, _, _, _, _, rfl, -⟩ := h
  exact rfl
theorem sw_zg {ws : va_W} {ad y : Nat → Nat} {nw : Nat} {n : Nat} {nc : Nat} {qn : Nat} {fq : Nat} {mc1 : Int32} {mc2 : Int32} {aita : Nat} {acta : Nat} {qe : Nat → Option Nat} {cents : Nat → Nat} {grams : Nat → Nat} {cf : Nat → Bool} {cc : Nat → Nat} {fx : Nat → Bool} {lc : Nat → Nat} {lg : Nat → Nat} {told : Nat → Nat} {adp : Nat → Nat} {shr : Nat → UInt64} {pr : Nat → UInt64} {rel : Nat → UInt64} {grp : Nat → UInt64} {idx : Nat → UInt64} {num : Nat → Nat} {zi : Nat → Nat} {zc : Nat → Nat} {zg : Nat → Nat} {zf : Nat → Nat} {zn : Nat → Nat} {zl : Nat → Nat} {zr : Nat → Nat} {ze : Nat → Nat} {zt : Nat → Nat} {za : Nat → Nat} {zw : Nat → Nat} {zq : Nat → Nat} {G : Nat → Nat} {M : Nat → Nat} {Sn : Nat → Nat} {fw : Nat → Nat} {lag : Nat → Nat} {trig : Nat → Nat} {fl : Nat → Bool} {fm : Nat → Nat} {cs : Nat → Nat × Nat × Nat × Nat} {pi : Nat} {pc : Nat} (h : SW ad y nw n nc qn fq mc1 mc2 aita acta qe cents grams cf cc fx lc lg told adp shr pr rel grp idx num zi zc zg zf zn zl zr ze zt za zw zq G M Sn fw lag trig fl fm cs pi pc ws) : ws[32]? = some (ad 32, eN y 60 zg) := by
  obtain ⟨_, _, _, _, _, _, _, _, _, rfl, -⟩ := h
  exact rfl
theorem sw_zf {ws : va_W} {ad y : Nat → Nat} {nw : Nat} {n : Nat} {nc : Nat} {qn : Nat} {fq : Nat} {mc1 : Int32} {mc2 : Int32} {aita : Nat} {acta : Nat} {qe : Nat → Option Nat} {cents : Nat → Nat} {grams : Nat → Nat} {cf : Nat → Bool} {cc : Nat → Nat} {fx : Nat → Bool} {lc : Nat → Nat} {lg : Nat → Nat} {told : Nat → Nat} {adp : Nat → Nat} {shr : Nat → UInt64} {pr : Nat → UInt64} {rel : Nat → UInt64} {grp : Nat → UInt64} {idx : Nat → UInt64} {num : Nat → Nat} {zi : Nat → Nat} {zc : Nat → Nat} {zg : Nat → Nat} {zf : Nat → Nat} {zn : Nat → Nat} {zl : Nat → Nat} {zr : Nat → Nat} {ze : Nat → Nat} {zt : Nat → Nat} {za : Nat → Nat} {zw : Nat → Nat} {zq : Nat → Nat} {G : Nat → Nat} {M : Nat → Nat} {Sn : Nat → Nat} {fw : Nat → Nat} {lag : Nat → Nat} {trig : Nat → Nat} {fl : Nat → Bool} {fm : Nat → Nat} {cs : Nat → Nat × Nat × Nat × Nat} {pi : Nat} {pc : Nat} (h : SW ad y nw n nc qn fq mc1 mc2 aita acta qe cents grams cf cc fx lc lg told adp shr pr rel grp idx num zi zc zg zf zn zl zr ze zt za zw zq G M Sn fw lag trig fl fm cs pi pc ws) : ws[33]? = some (ad 33, eN y 60 zf) := by
  obtain ⟨_, _, _, _, _, _, _, _, _, rfl, -⟩ := h
  exact rfl
theorem sw_zn {ws : va_W} {ad y : Nat → Nat} {nw : Nat} {n : Nat} {nc : Nat} {qn : Nat} {fq : Nat} {mc1 : Int32} {mc2 : Int32} {aita : Nat} {acta : Nat} {qe : Nat → Option Nat} {cents : Nat → Nat} {grams : Nat → Nat} {cf : Nat → Bool} {cc : Nat → Nat} {fx : Nat → Bool} {lc : Nat → Nat} {lg : Nat → Nat} {told : Nat → Nat} {adp : Nat → Nat} {shr : Nat → UInt64} {pr : Nat → UInt64} {rel : Nat → UInt64} {grp : Nat → UInt64} {idx : Nat → UInt64} {num : Nat → Nat} {zi : Nat → Nat} {zc : Nat → Nat} {zg : Nat → Nat} {zf : Nat → Nat} {zn : Nat → Nat} {zl : Nat → Nat} {zr : Nat → Nat} {ze : Nat → Nat} {zt : Nat → Nat} {za : Nat → Nat} {zw : Nat → Nat} {zq : Nat → Nat} {G : Nat → Nat} {M : Nat → Nat} {Sn : Nat → Nat} {fw : Nat → Nat} {lag : Nat → Nat} {trig : Nat → Nat} {fl : Nat → Bool} {fm : Nat → Nat} {cs : Nat → Nat × Nat × Nat × Nat} {pi : Nat} {pc : Nat} (h : SW ad y nw n nc qn fq mc1 mc2 aita acta qe cents grams cf cc fx lc lg told adp shr pr rel grp idx num zi zc zg zf zn zl zr ze zt za zw zq G M Sn fw lag trig fl fm cs pi pc ws) : ws[34]? = some (ad 34, eN y 60 zn) := by
  obtain ⟨_, _, _, _, _, _, _, _, _, rfl, -⟩ := h
  exact rfl
theorem sw_zl {ws : va_W} {ad y : Nat → Nat} {nw : Nat} {n : Nat} {nc : Nat} {qn : Nat} {fq : Nat} {mc1 : Int32} {mc2 : Int32} {aita : Nat} {acta : Nat} {qe : Nat → Option Nat} {cents : Nat → Nat} {grams : Nat → Nat} {cf : Nat → Bool} {cc : Nat → Nat} {fx : Nat → Bool} {lc : Nat → Nat} {lg : Nat → Nat} {told : Nat → Nat} {adp : Nat → Nat} {shr : Nat → UInt64} {pr : Nat → UInt64} {rel : Nat → UInt64} {grp : Nat → UInt64} {idx : Nat → UInt64} {num : Nat → Nat} {zi : Nat → Nat} {zc : Nat → Nat} {zg : Nat → Nat} {zf : Nat → Nat} {zn : Nat → Nat} {zl : Nat → Nat} {zr : Nat → Nat} {ze : Nat → Nat} {zt : Nat → Nat} {za : Nat → Nat} {zw : Nat → Nat} {zq : Nat → Nat} {G : Nat → Nat} {M : Nat → Nat} {Sn : Nat → Nat} {fw : Nat → Nat} {lag : Nat → Nat} {trig : Nat → Nat} {fl : Nat → Bool} {fm : Nat → Nat} {cs : Nat → Nat × Nat × Nat × Nat} {pi : Nat} {pc : Nat} (h : SW ad y nw n nc qn fq mc1 mc2 aita acta qe cents grams cf cc fx lc lg told adp shr pr rel grp idx num zi zc zg zf zn zl zr ze zt za zw zq G M Sn fw lag trig fl fm cs pi pc ws) : ws[35]? = some (ad 35, eN y 60 zl) := by
  obtain ⟨_, _, _, _, _, _, _, _, _, rfl, -⟩ := h
  exact rfl
theorem sw_zr {ws : va_W} {ad y : Nat → Nat} {nw : Nat} {n : Nat} {nc : Nat} {qn : Nat} {fq : Nat} {mc1 : Int32} {mc2 : Int32} {aita : Nat} {acta : Nat} {qe : Nat → Option Nat} {cents : Nat → Nat} {grams : Nat → Nat} {cf : Nat → Bool} {cc : Nat → Nat} {fx : Nat → Bool} {lc : Nat → Nat} {lg : Nat → Nat} {told : Nat → Nat} {adp : Nat → Nat} {shr : Nat → UInt64} {pr : Nat → UInt64} {rel : Nat → UInt64} {grp : Nat → UInt64} {idx : Nat → UInt64} {num : Nat → Nat} {zi : Nat → Nat} {zc : Nat → Nat} {zg : Nat → Nat} {zf : Nat → Nat} {zn : Nat → Nat} {zl : Nat → Nat} {zr : Nat → Nat} {ze : Nat → Nat} {zt : Nat → Nat} {za : Nat → Nat} {zw : Nat → Nat} {zq : Nat → Nat} {G : Nat → Nat} {M : Nat → Nat} {Sn : Nat → Nat} {fw : Nat → Nat} {lag : Nat → Nat} {trig : Nat → Nat} {fl : Nat → Bool} {fm : Nat → Nat} {cs : Nat → Nat × Nat × Nat × Nat} {pi : Nat} {pc : Nat} (h : SW ad y nw n nc qn fq mc1 mc2 aita acta qe cents grams cf cc fx lc lg told adp shr pr rel grp idx num zi zc zg zf zn zl zr ze zt za zw zq G M Sn fw lag trig fl fm cs pi pc ws) : ws[36]? = some (ad 36, eN y 60 zr) := by
  obtain ⟨_, _, _, _, _, _, _, _, _, rfl, -⟩ := h
  exact rfl
theorem sw_ze {ws : va_W} {ad y : Nat → Nat} {nw : Nat} {n : Nat} {nc : Nat} {qn : Nat} {fq : Nat} {mc1 : Int32} {mc2 : Int32} {aita : Nat} {acta : Nat} {qe : Nat → Option Nat} {cents : Nat → Nat} {grams : Nat → Nat} {cf : Nat → Bool} {cc : Nat → Nat} {fx : Nat → Bool} {lc : Nat → Nat} {lg : Nat → Nat} {told : Nat → Nat} {adp : Nat → Nat} {shr : Nat → UInt64} {pr : Nat → UInt64} {rel : Nat → UInt64} {grp : Nat → UInt64} {idx : Nat → UInt64} {num : Nat → Nat} {zi : Nat → Nat} {zc : Nat → Nat} {zg : Nat → Nat} {zf : Nat → Nat} {zn : Nat → Nat} {zl : Nat → Nat} {zr : Nat → Nat} {ze : Nat → Nat} {zt : Nat → Nat} {za : Nat → Nat} {zw : Nat → Nat} {zq : Nat → Nat} {G : Nat → Nat} {M : Nat → Nat} {Sn : Nat → Nat} {fw : Nat → Nat} {lag : Nat → Nat} {trig : Nat → Nat} {fl : Nat → Bool} {fm : Nat → Nat} {cs : Nat → Nat × Nat × Nat × Nat} {pi : Nat} {pc : Nat} (h : SW ad y nw n nc qn fq mc1 mc2 aita acta qe cents grams cf cc fx lc lg told adp shr pr rel grp idx num zi zc zg zf zn zl zr ze zt za zw zq G M Sn fw lag trig fl fm cs pi pc ws) : ws[37]? = some (ad 37, eN y 60 ze) := by
  obtain ⟨_, _, _, _, _, _, _, _, _, rfl, -⟩ := h
  exact rfl
theorem sw_zt {ws : va_W} {ad y : Nat → Nat} {nw : Nat} {n : Nat} {nc : Nat} {qn : Nat} {fq : Nat} {mc1 : Int32} {mc2 : Int32} {aita : Nat} {acta : Nat} {qe : Nat → Option Nat} {cents : Nat → Nat} {grams : Nat → Nat} {cf : Nat → Bool} {cc : Nat → Nat} {fx : Nat → Bool} {lc : Nat → Nat} {lg : Nat → Nat} {told : Nat → Nat} {adp : Nat → Nat} {shr : Nat → UInt64} {pr : Nat → UInt64} {rel : Nat → UInt64} {grp : Nat → UInt64} {idx : Nat → UInt64} {num : Nat → Nat} {zi : Nat → Nat} {zc : Nat → Nat} {zg : Nat → Nat} {zf : Nat → Nat} {zn : Nat → Nat} {zl : Nat → Nat} {zr : Nat → Nat} {ze : Nat → Nat} {zt : Nat → Nat} {za : Nat → Nat} {zw : Nat → Nat} {zq : Nat → Nat} {G : Nat → Nat} {M : Nat → Nat} {Sn : Nat → Nat} {fw : Nat → Nat} {lag : Nat → Nat} {trig : Nat → Nat} {fl : Nat → Bool} {fm : Nat → Nat} {cs : Nat → Nat × Nat × Nat × Nat} {pi : Nat} {pc : Nat} (h : SW ad y nw n nc qn fq mc1 mc2 aita acta qe cents grams cf cc fx lc lg told adp shr pr rel grp idx num zi zc zg zf zn zl zr ze zt za zw zq G M Sn fw lag trig fl fm cs pi pc ws) : ws[38]? = some (ad 38, eN y 12 zt) := by
  obtain ⟨_, _, _, _, _, _, _, _, _, rfl, -⟩ := h
  exact rfl
theorem sw_za {ws : va_W} {ad y : Nat → Nat} {nw : Nat} {n : Nat} {nc : Nat} {qn : Nat} {fq : Nat} {mc1 : Int32} {mc2 : Int32} {aita : Nat} {acta : Nat} {qe : Nat → Option Nat} {cents : Nat → Nat} {grams : Nat → Nat} {cf : Nat → Bool} {cc : Nat → Nat} {fx : Nat → Bool} {lc : Nat → Nat} {lg : Nat → Nat} {told : Nat → Nat} {adp : Nat → Nat} {shr : Nat → UInt64} {pr : Nat → UInt64} {rel : Nat → UInt64} {grp : Nat → UInt64} {idx : Nat → UInt64} {num : Nat → Nat} {zi : Nat → Nat} {zc : Nat → Nat} {zg : Nat → Nat} {zf : Nat → Nat} {zn : Nat → Nat} {zl : Nat → Nat} {zr : Nat → Nat} {ze : Nat → Nat} {zt : Nat → Nat} {za : Nat → Nat} {zw : Nat → Nat} {zq : Nat → Nat} {G : Nat → Nat} {M : Nat → Nat} {Sn : Nat → Nat} {fw : Nat → Nat} {lag : Nat → Nat} {trig : Nat → Nat} {fl : Nat → Bool} {fm : Nat → Nat} {cs : Nat → Nat × Nat × Nat × Nat} {pi : Nat} {pc : Nat} (h : SW ad y nw n nc qn fq mc1 mc2 aita acta qe cents grams cf cc fx lc lg told adp shr pr rel grp idx num zi zc zg zf zn zl zr ze zt za zw zq G M Sn fw lag trig fl fm cs pi pc ws) : ws[39]? = some (ad 39, eN y 12 za) := by
  obtain ⟨_, _, _, _, _, _, _, _, _, rfl, -⟩ := h
  exact rfl
theorem sw_zw {ws : va_W} {ad y : Nat → Nat} {nw : Nat} {n : Nat} {nc : Nat} {qn : Nat} {fq : Nat} {mc1 : Int32} {mc2 : Int32} {aita : Nat} {acta : Nat} {qe : Nat → Option Nat} {cents : Nat → Nat} {grams : Nat → Nat} {cf : Nat → Bool} {cc : Nat → Nat} {fx : Nat → Bool} {lc : Nat → Nat} {lg : Nat → Nat} {told : Nat → Nat} {adp : Nat → Nat} {shr : Nat → UInt64} {pr : Nat → UInt64} {rel : Nat → UInt64} {grp : Nat → UInt64} {idx : Nat → UInt64} {num : Nat → Nat} {zi : Nat → Nat} {zc : Nat → Nat} {zg : Nat → Nat} {zf : Nat → Nat} {zn : Nat → Nat} {zl : Nat → Nat} {zr : Nat → Nat} {ze : Nat → Nat} {zt : Nat → Nat} {za : Nat → Nat} {zw : Nat → Nat} {zq : Nat → Nat} {G : Nat → Nat} {M : Nat → Nat} {Sn : Nat → Nat} {fw : Nat → Nat} {lag : Nat → Nat} {trig : Nat → Nat} {fl : Nat → Bool} {fm : Nat → Nat} {cs : Nat → Nat × Nat × Nat × Nat} {pi : Nat} {pc : Nat} (h : SW ad y nw n nc qn fq mc1 mc2 aita acta qe cents grams cf cc fx lc lg told adp shr pr rel grp idx num zi zc zg zf zn zl zr ze zt za zw zq G M Sn fw lag trig fl fm cs pi pc ws) : ws[40]? = some (ad 40, eL y 30 zw) := by
  obtain ⟨_, _, _, _, _, _, _, _, _, rfl, -⟩ := h
  exact rfl
theorem sw_zq {ws : va_W} {ad y : Nat → Nat} {nw : Nat} {n : Nat} {nc : Nat} {qn : Nat} {fq : Nat} {mc1 : Int32} {mc2 : Int32} {aita : Nat} {acta : Nat} {qe : Nat → Option Nat} {cents : Nat → Nat} {grams : Nat → Nat} {cf : Nat → Bool} {cc : Nat → Nat} {fx : Nat → Bool} {lc : Nat → Nat} {lg : Nat → Nat} {told : Nat → Nat} {adp : Nat → Nat} {shr : Nat → UInt64} {pr : Nat → UInt64} {rel : Nat → UInt64} {grp : Nat → UInt64} {idx : Nat → UInt64} {num : Nat → Nat} {zi : Nat → Nat} {zc : Nat → Nat} {zg : Nat → Nat} {zf : Nat → Nat} {zn : Nat → Nat} {zl : Nat → Nat} {zr : Nat → Nat} {ze : Nat → Nat} {zt : Nat → Nat} {za : Nat → Nat} {zw : Nat → Nat} {zq : Nat → Nat} {G : Nat → Nat} {M : Nat → Nat} {Sn : Nat → Nat} {fw : Nat → Nat} {lag : Nat → Nat} {trig : Nat → Nat} {fl : Nat → Bool} {fm : Nat → Nat} {cs : Nat → Nat × Nat × Nat × Nat} {pi : Nat} {pc : Nat} (h : SW ad y nw n nc qn fq mc1 mc2 aita acta qe cents grams cf cc fx lc lg told adp shr pr rel grp idx num zi zc zg zf zn zl zr ze zt za zw zq G M Sn fw lag trig fl fm cs pi pc ws) : ws[41]? = some (ad 41, eN y 5 zq) := by
  obtain ⟨_, _, _, _, _, _, _, _, _, rfl, -⟩ := h
  exact rfl
theorem sw_off {ws : va_W} {ad y : Nat → Nat} {nw : Nat} {n : Nat} {nc : Nat} {qn : Nat} {fq : Nat} {mc1 : Int32} {mc2 : Int32} {aita : Nat} {acta : Nat} {qe : Nat → Option Nat} {cents : Nat → Nat} {grams : Nat → Nat} {cf : Nat → Bool} {cc : Nat → Nat} {fx : Nat → Bool} {lc : Nat → Nat} {lg : Nat → Nat} {told : Nat → Nat} {adp : Nat → Nat} {shr : Nat → UInt64} {pr : Nat → UInt64} {rel : Nat → UInt64} {grp : Nat → UInt64} {idx : Nat → UInt64} {num : Nat → Nat} {zi : Nat → Nat} {zc : Nat → Nat} {zg : Nat → Nat} {zf : Nat → Nat} {zn : Nat → Nat} {zl : Nat → Nat} {zr : Nat → Nat} {ze : Nat → Nat} {zt : Nat → Nat} {za : Nat → Nat} {zw : Nat → Nat} {zq : Nat → Nat} {G : Nat → Nat} {M : Nat → Nat} {Sn : Nat → Nat} {fw : Nat → Nat} {lag : Nat → Nat} {trig : Nat → Nat} {fl : Nat → Bool} {fm : Nat → Nat} {cs : Nat → Nat × Nat × Nat × Nat} {pi : Nat} {pc : Nat} (h : SW ad y nw n nc qn fq mc1 mc2 aita acta qe cents grams cf cc fx lc lg told adp shr pr rel grp idx num zi zc zg zf zn zl zr ze zt za zw zq G M Sn fw lag trig fl fm cs pi pc ws) : ∃ fs : List Value, ws[1]? = some (ad 1, .inr (7, fs)) := by
  obtain ⟨_, _, _, _, _, _, _, _, _, rfl, -⟩ := h
  exact ⟨_, fw_off⟩
section GL11
variable {p : Program} {l : Launch} {e : Env} {R : Room} {s : State} {m : MethodId} {args : Array Value} {below : List Frame} {meth : Method} {c : Code} {H H0 : Heap} {locs : List Loc} {cells slots : Nat} {Q : State → Prop}
variable {cc : ByteArray} {pc : Nat} {ls : Array Slot} {rest : List Value} {D : va_G} {y : Nat → Nat} {A : Nat → Prop} {a : Nat} {ws : va_W}
/-- a counted loop over worlds of which something is known, with what a turn makes -/
theorem g_forW (Pr : Nat → va_W → Prop) (Lv : Nat → List (Nat × Value)) (N j0 dc ds : Nat) {nL : Nat} {st : List Value} (h0 : j0 ≤ N)
    (hx : ∀ w, Pr N w → ∀ (H : Heap) (locs : List Loc) (ls : Array Slot), gvP D vwCl w H → gvD A w → va_S A H0 H locs → lv_has ls nL (Lv N) → W p l e R s m args below meth c H locs (N * dc) (N * ds) Q (F0 m pc ls st))
    (hs : ∀ j, j < N → (∀ w, Pr (j + 1) w → ∀ (H : Heap) (locs : List Loc) (ls : Array Slot), gvP D vwCl w H → gvD A w → va_S A H0 H locs → lv_has ls nL (Lv (j + 1)) → W p l e R s m args below meth c H locs ((j + 1) * dc) ((j + 1) * ds) Q (F0 m pc ls st)) → ∀ w, Pr j w → ∀ (H : Heap) (locs : List Loc) (ls : Array Slot), gvP D vwCl w H → gvD A w → va_S A H0 H locs → lv_has ls nL (Lv j) → W p l e R s m args below meth c H locs (j * dc) (j * ds) Q (F0 m pc ls st))
    (hp : Pr j0 ws) (hP : gvP D vwCl ws H) (hD : gvD A ws) (hS : va_S A H0 H locs) (hl : lv_has ls nL (Lv j0)) (hc : cells ≤ j0 * dc) (hc2 : slots ≤ j0 * ds) : W p l e R s m args below meth c H locs cells slots Q (F0 m pc ls st) :=
  W.widen hc hc2 (g_down (P := fun j => ∀ w, Pr j w → ∀ (H : Heap) (locs : List Loc) (ls : Array Slot), gvP D vwCl w H → gvD A w → va_S A H0 H locs → lv_has ls nL (Lv j) → W p l e R s m args below meth c H locs (j * dc) (j * ds) Q (F0 m pc ls st)) N hx hs j0 h0 ws hp H locs ls hP hD hS hl)
theorem g_lcmpE_ne (hexec : p.tables.exec = Jvm.exec) (hb : c.code = cc) {x : Int64} {off : Int} {tgt : Nat} (hdg : decode cc pc = .ok (.lcmp, 1)) (hdh : decode cc (pc + 1) = .ok (.ifCond .ne off, 3)) (ht : ((pc + 1 : Nat) : Int) + off = (tgt : Int))
    (kf : W p l e R s m args below meth c H locs cells slots Q (F0 m (pc + 1 + 3) ls rest)) : W p l e R s m args below meth c H locs cells slots Q (F0 m pc ls (.long x :: .long x :: rest)) := by
  refine W.lcmp hexec hb hdg ?_
  have e0 : lg_cmp x x = 0 := by unfold lg_cmp; simp
  rw [e0]
  exact lv_if_ne hexec hb hdh ht (fun h => absurd rfl h) (fun _ => kf)
end GL11
theorem Deq_n64 {x : UInt64} (h : vf_n64 x) : Deq x x := FP.Core.dcmp_refl (by
  have z := FP.Core.isNaN_bits x
  rw [← Bool.not_eq_true]
  intro h9
  have := z.mp h9
  unfold vf_n64 at h
  rw [UInt64.le_iff_toNat_le, FP.Core.mask_toNat, show (0x7ff0000000000000 : UInt64).toNat = 9218868437227405312 from by decide] at h
  omega)
theorem Deq_NF {x : UInt64} (h : NF x) : Deq x x := Deq_n64 h.vf
theorem prodF_s {gr : Nat → UInt64} {g m : Nat} (h : 1 ≤ m) : FP.dmul (prodF gr g (m - 1)) (gr (m * 4 + g)) = prodF gr g (m + 1 - 1) := by
  obtain ⟨j, rfl⟩ : ∃ j, m = j + 1 := ⟨m - 1, by omega⟩
  rw [Nat.add_sub_cancel, Nat.add_sub_cancel]
  show _ = FP.dmul (prodF gr g j) (gr ((1 + j) * 4 + g))
  rw [Nat.add_comm 1 j]
theorem nnProd {shr gr : Nat → UInt64} {t g m : Nat} (h : nnDirect shr gr t) (hg : g < 4) (h1 : 1 ≤ m) (h2 : m ≤ t) : vf_n64 (FP.dmul (prodF gr g (m - 1)) (gr (m * 4 + g))) := by
  have h3 := h.1 g hg (m - 1) (by omega)
  rw [show 1 + (m - 1) = m by omega] at h3
  exact h3
def mxF (gr : Nat → UInt64) (t : Nat) : Nat → UInt64
  | 0 => 0
  | j + 1 => if Dgt (gr (t * 4 + j)) (mxF gr t j) then gr (t * 4 + j) else mxF gr t j
def mnF (gr : Nat → UInt64) (t : Nat) : Nat → UInt64
  | 0 => 9094988921128908188
  | j + 1 => if Dlt (gr (t * 4 + j)) (mnF gr t j) then gr (t * 4 + j) else mnF gr t j
def coO (x mx : UInt64) (hm : Bool) : Bool := decide (Deq x mx ∧ hm = false)
def coL (x mn : UInt64) (o hl : Bool) : Bool := decide (o = false ∧ Deq x mn ∧ hl = false)
def coF (gr : Nat → UInt64) (t : Nat) (mx mn : UInt64) : Nat → Bool × Bool × UInt64
  | 0 => (false, false, 0)
  | j + 1 =>
    let s := coF gr t mx mn j
    let o := coO (gr (t * 4 + j)) mx s.1
    let w := coL (gr (t * 4 + j)) mn o s.2.1
    (s.1 || o, s.2.1 || w, if (o || w) = true then s.2.2 else FP.dadd s.2.2 (gr (t * 4 + j)))
theorem big_uN : NF 9094988921128908188 ∧ 2 ^ (51 + 1032) ≤ uN 9094988921128908188 := ⟨by unfold NF; decide, by decide +kernel⟩
theorem mxF_p {gr : Nat → UInt64} {t : Nat} (hg : ∀ j, j < 4 → Rg 1015 1031 (gr (t * 4 + j))) : ∀ j, j ≤ 4 → NF (mxF gr t j) ∧ (∀ i, i < j → uN (gr (t * 4 + i)) ≤ uN (mxF gr t j)) ∧ (0 < j → ∃ i, i < j ∧ uN (mxF gr t j) = uN (gr (t * 4 + i)))
  | 0, _ => ⟨NF_zero, fun i h => absurd h (Nat.not_lt_zero _), fun h => absurd h (Nat.lt_irrefl _)⟩
  | j + 1, hj => by
    obtain ⟨a1, a2, a3⟩ := mxF_p hg j (by omega)
    have hn := (hg j (by omega)).1
    have hp := (hg j (by omega)).pos
    have hc := (cmp_uN hn a1).2.2
    rw [show mxF gr t (j + 1) = if Dgt (gr (t * 4 + j)) (mxF gr t j) then gr (t * 4 + j) else mxF gr t j from rfl]
    by_cases h : Dgt (gr (t * 4 + j)) (mxF gr t j)
    · rw [if_pos h]
      have h9 := hc.mp h
      refine ⟨hn, fun i hi => ?_, fun _ => ⟨j, Nat.lt_succ_self j, rfl⟩⟩
      rcases Nat.lt_or_ge i j with q | q
      · have := a2 i q; omega
      · have e : i = j := by omega
        rw [e]; exact Nat.le_refl _
    · rw [if_neg h]
      have h9 : ¬ uN (mxF gr t j) < uN (gr (t * 4 + j)) := fun z => h (hc.mpr z)
      refine ⟨a1, fun i hi => ?_, fun _ => ?_⟩
      · rcases Nat.lt_or_ge i j with q | q
        · exact a2 i q
        · have e : i = j := by omega
          rw [e]; omega
      · rcases Nat.eq_zero_or_pos j with q | q
        · subst q
          exfalso
          have e : uN (mxF gr t 0) = 0 := uN_zero
          omega
        · obtain ⟨i, h1, h2⟩ := a3 q
          exact ⟨i, by omega, h2⟩
theorem mnF_p {gr : Nat → UInt64} {t : Nat} (hg : ∀ j, j < 4 → Rg 1015 1031 (gr (t * 4 + j))) : ∀ j, j ≤ 4 → NF (mnF gr t j) ∧ (∀ i, i < j → uN (mnF gr t j) ≤ uN (gr (t * 4 + i))) ∧ (0 < j → ∃ i, i < j ∧ uN (mnF gr t j) = uN (gr (t * 4 + i)))
  | 0, _ => ⟨big_uN.1, fun i h => absurd h (Nat.not_lt_zero _), fun h => absurd h (Nat.lt_irrefl _)⟩
  | j + 1, hj => by
    obtain ⟨a1, a2, a3⟩ := mnF_p hg j (by omega)
    have hn := (hg j (by omega)).1
    have hu := (hg j (by omega)).2.2
    have hc := (cmp_uN hn a1).1
    rw [show mnF gr t (j + 1) = if Dlt (gr (t * 4 + j)) (mnF gr t j) then gr (t * 4 + j) else mnF gr t j from rfl]
    by_cases h : Dlt (gr (t * 4 + j)) (mnF gr t j)
    · rw [if_pos h]
      have h9 := hc.mp h
      refine ⟨hn, fun i hi => ?_, fun _ => ⟨j, Nat.lt_succ_self j, rfl⟩⟩
      rcases Nat.lt_or_ge i j with q | q
      · have := a2 i q; omega
      · have e : i = j := by omega
        rw [e]; exact Nat.le_refl _
    · rw [if_neg h]
      have h9 : ¬ uN (gr (t * 4 + j)) < uN (mnF gr t j) := fun z => h (hc.mpr z)
      refine ⟨a1, fun i hi => ?_, fun _ => ?_⟩
      · rcases Nat.lt_or_ge i j with q | q
        · exact a2 i q
        · have e : i = j := by omega
          rw [e]; omega
      · rcases Nat.eq_zero_or_pos j with q | q
        · subst q
          exfalso
          have e : 2 ^ (51 + 1032) ≤ uN (mnF gr t 0) := big_uN.2
          have e2 : (2 : Nat) ^ (51 + 1031) < 2 ^ (51 + 1032) := Nat.pow_lt_pow_right (by decide) (by decide)
          exact h9 (Nat.lt_of_le_of_lt hu (Nat.lt_of_lt_of_le e2 e))
        · obtain ⟨i, h1, h2⟩ := a3 q
          exact ⟨i, by omega, h2⟩
theorem gtF_p {gr : Nat → UInt64} {t : Nat} (hg : ∀ j, j < 4 → Rg 1015 1031 (gr (t * 4 + j))) : ∀ j, j ≤ 3 → (∀ i, i ≤ j → uN (gr (t * 4 + i)) ≤ uN (gr (t * 4 + gtF gr t j))) ∧ ∀ i, i < gtF gr t j → uN (gr (t * 4 + i)) < uN (gr (t * 4 + gtF gr t j))
  | 0, _ => ⟨fun i h => by rw [show i = 0 by omega]; exact Nat.le_refl _, fun i h => absurd h (Nat.not_lt_zero _)⟩
  | j + 1, hj => by
    obtain ⟨a1, a2⟩ := gtF_p hg j (by omega)
    have hl := gtF_le gr t j
    have hc := (cmp_uN (hg (1 + j) (by omega)).1 (hg (gtF gr t j) (by omega)).1).2.2
    have e : gtF gr t (j + 1) = if Dgt (gr (t * 4 + (1 + j))) (gr (t * 4 + gtF gr t j)) then 1 + j else gtF gr t j := rfl
    rw [e]
    by_cases h : Dgt (gr (t * 4 + (1 + j))) (gr (t * 4 + gtF gr t j))
    · rw [if_pos h]
      have h9 := hc.mp h
      refine ⟨fun i hi => ?_, fun i hi => ?_⟩
      · rcases Nat.lt_or_ge i (1 + j) with q | q
        · have := a1 i (by omega); omega
        · rw [show i = 1 + j by omega]; exact Nat.le_refl _
      · have := a1 i (by omega); omega
    · rw [if_neg h]
      have h9 : ¬ _ := fun z => h (hc.mpr z)
      refine ⟨fun i hi => ?_, a2⟩
      rcases Nat.lt_or_ge i (1 + j) with q | q
      · exact a1 i (by omega)
      · rw [show i = 1 + j by omega]; omega
theorem lsF_p {gr : Nat → UInt64} {t gt l0 : Nat} (hg : ∀ j, j < 4 → Rg 1015 1031 (gr (t * 4 + j))) (h0 : l0 ≠ gt) (hl0 : l0 < 4) : ∀ j, l0 + j ≤ 3 → l0 ≤ lsF gr t gt l0 j ∧ lsF gr t gt l0 j ≠ gt ∧ (∀ i, l0 ≤ i → i ≤ l0 + j → i ≠ gt → uN (gr (t * 4 + lsF gr t gt l0 j)) ≤ uN (gr (t * 4 + i))) ∧ ∀ i, l0 ≤ i → i < lsF gr t gt l0 j → i ≠ gt → uN (gr (t * 4 + lsF gr t gt l0 j)) < uN (gr (t * 4 + i))
  | 0, _ => ⟨Nat.le_refl _, h0, fun i h1 h2 _ => by rw [show i = l0 by omega]; exact Nat.le_refl _, fun i h1 h2 _ => absurd h2 (by show ¬ i < l0; omega)⟩
  | j + 1, hj => by
    obtain ⟨a0, a1, a2, a3⟩ := lsF_p hg h0 hl0 j (by omega)
    have hl := lsF_le gr t gt l0 j
    have hc := (cmp_uN (hg (l0 + 1 + j) (by omega)).1 (hg (lsF gr t gt l0 j) (by omega)).1).1
    have e : lsF gr t gt l0 (j + 1) = if l0 + 1 + j ≠ gt ∧ Dlt (gr (t * 4 + (l0 + 1 + j))) (gr (t * 4 + lsF gr t gt l0 j)) then l0 + 1 + j else lsF gr t gt l0 j := rfl
    rw [e]
    by_cases h : l0 + 1 + j ≠ gt ∧ Dlt (gr (t * 4 + (l0 + 1 + j))) (gr (t * 4 + lsF gr t gt l0 j))
    · rw [if_pos h]
      have h9 := hc.mp h.2
      refine ⟨by omega, h.1, fun i h1 h2 h3 => ?_, fun i h1 h2 h3 => ?_⟩
      · rcases Nat.lt_or_ge i (l0 + 1 + j) with q | q
        · have := a2 i h1 (by omega) h3; omega
        · rw [show i = l0 + 1 + j by omega]; exact Nat.le_refl _
      · have := a2 i h1 (by omega) h3; omega
    · rw [if_neg h]
      refine ⟨a0, a1, fun i h1 h2 h3 => ?_, a3⟩
      rcases Nat.lt_or_ge i (l0 + 1 + j) with q | q
      · exact a2 i h1 (by omega) h3
      · have e9 : i = l0 + 1 + j := by omega
        subst e9
        have h9 : ¬ _ := fun z => h ⟨h3, hc.mpr z⟩
        omega
/-- the law's core is the office's -/
theorem coF_s {gr : Nat → UInt64} {t gt ls : Nat} {mx mn : UInt64} (hg : ∀ j, j < 4 → Rg 1015 1031 (gr (t * 4 + j))) (hx : NF mx) (hn : NF mn) (g0 : gt < 4) (g1 : uN (gr (t * 4 + gt)) = uN mx) (g2 : ∀ i, i < gt → uN (gr (t * 4 + i)) < uN mx) (l0 : ls ≠ gt) (l1 : uN (gr (t * 4 + ls)) = uN mn) (l2 : ∀ i, i < ls → i ≠ gt → uN mn < uN (gr (t * 4 + i))) : ∀ j, j ≤ 4 → coF gr t mx mn j = (decide (gt < j), decide (ls < j), smF gr t gt ls j)
  | 0, _ => by
    rw [decide_eq_false (Nat.not_lt_zero gt), decide_eq_false (Nat.not_lt_zero ls)]; rfl
  | j + 1, hj => by
    have ih := coF_s hg hx hn g0 g1 g2 l0 l1 l2 j (by omega)
    have cx := (cmp_uN (hg j (by omega)).1 hx).2.1
    have cn := (cmp_uN (hg j (by omega)).1 hn).2.1
    have ho : coO (gr (t * 4 + j)) mx (decide (gt < j)) = decide (j = gt) := by
      unfold coO
      by_cases e : j = gt
      · subst e
        rw [decide_eq_true rfl]
        exact decide_eq_true ⟨cx.mpr g1, decide_eq_false (Nat.lt_irrefl j)⟩
      · rw [decide_eq_false e]
        refine decide_eq_false (fun z => ?_)
        have z1 := cx.mp z.1
        have z2 := of_decide_eq_false z.2
        have := g2 j (by omega)
        omega
    have hw : coL (gr (t * 4 + j)) mn (decide (j = gt)) (decide (ls < j)) = decide (j = ls) := by
      unfold coL
      by_cases e : j = ls
      · subst e
        rw [show decide (j = j) = true from decide_eq_true rfl]
        exact decide_eq_true ⟨decide_eq_false l0, cn.mpr l1, decide_eq_false (Nat.lt_irrefl j)⟩
      · rw [show decide (j = ls) = false from decide_eq_false e]
        refine decide_eq_false (fun z => ?_)
        have z0 := of_decide_eq_false z.1
        have z1 := cn.mp z.2.1
        have z2 := of_decide_eq_false z.2.2
        have := l2 j (by omega) z0
        omega
    show (_ || coO _ _ _, _ || coL _ _ (coO _ _ _) _, if (coO _ _ _ || coL _ _ (coO _ _ _) _) = true then _ else _) = _
    rw [ih]
    dsimp only
    rw [ho, hw]
    have e1 : (decide (gt < j) || decide (j = gt)) = decide (gt < j + 1) := by
      by_cases h : gt < j + 1
      · rw [decide_eq_true h]
        rcases Nat.lt_or_ge gt j with q | q
        · rw [decide_eq_true q]; rfl
        · rw [decide_eq_true (show j = gt by omega), Bool.or_true]
      · rw [decide_eq_false h, decide_eq_false (show ¬ gt < j by omega), decide_eq_false (show ¬ j = gt by omega)]; rfl
    have e2 : (decide (ls < j) || decide (j = ls)) = decide (ls < j + 1) := by
      by_cases h : ls < j + 1
      · rw [decide_eq_true h]
        rcases Nat.lt_or_ge ls j with q | q
        · rw [decide_eq_true q]; rfl
        · rw [decide_eq_true (show j = ls by omega), Bool.or_true]
      · rw [decide_eq_false h, decide_eq_false (show ¬ ls < j by omega), decide_eq_false (show ¬ j = ls by omega)]; rfl
    rw [e1, e2]
    congr 2
    show _ = if j ≠ gt ∧ j ≠ ls then FP.dadd (smF gr t gt ls j) (gr (t * 4 + j)) else smF gr t gt ls j
    by_cases h1 : j = gt
    · rw [decide_eq_true h1, Bool.true_or, if_pos rfl, if_neg (fun z => z.1 h1)]
    · by_cases h2 : j = ls
      · rw [decide_eq_true h2, Bool.or_true, if_pos rfl, if_neg (fun z => z.2 h2)]
      · rw [decide_eq_false h1, decide_eq_false h2, if_neg (by decide), if_pos ⟨h1, h2⟩]
theorem core_co {gr : Nat → UInt64} {t : Nat} (hg : ∀ j, j < 4 → Rg 1015 1031 (gr (t * 4 + j))) : ∀ j, j ≤ 4 → (coF gr t (mxF gr t 4) (mnF gr t 4) j).2.2 = smF gr t (gtF gr t 3) (coreL gr t (if gtF gr t 3 = 0 then 1 else 0)) j := by
  obtain ⟨x1, x2, x3⟩ := mxF_p hg 4 (Nat.le_refl 4)
  obtain ⟨n1, n2, n3⟩ := mnF_p hg 4 (Nat.le_refl 4)
  obtain ⟨a1, a2⟩ := gtF_p hg 3 (Nat.le_refl 3)
  have hgl := gtF_le gr t 3
  obtain ⟨i, hi, ei⟩ := x3 (by decide)
  obtain ⟨k, hk, ek⟩ := n3 (by decide)
  have hgx : uN (gr (t * 4 + gtF gr t 3)) = uN (mxF gr t 4) := by
    have h1 := x2 (gtF gr t 3) (by omega)
    have h2 := a1 i (by omega)
    omega
  obtain ⟨l0, hl0, hl1, hl2, hl3⟩ : ∃ l0, l0 = (if gtF gr t 3 = 0 then 1 else 0) ∧ l0 ≠ gtF gr t 3 ∧ l0 < 2 ∧ ∀ q, q < l0 → q = gtF gr t 3 := by
    by_cases h : gtF gr t 3 = 0
    · exact ⟨1, by rw [if_pos h], by omega, by decide, fun q hq => by omega⟩
    · exact ⟨0, by rw [if_neg h], by omega, by decide, fun q hq => by omega⟩
  rw [← hl0]
  have hlp := lsF_p hg hl1 (by omega) (3 - l0) (by omega)
  have hll := lsF_le gr t (gtF gr t 3) l0 (3 - l0)
  have eL : coreL gr t l0 = lsF gr t (gtF gr t 3) l0 (3 - l0) := rfl
  rw [← eL] at hlp hll
  obtain ⟨b0, b1, b2, b3⟩ := hlp
  have hmin : ∀ q, q < 4 → uN (gr (t * 4 + coreL gr t l0)) ≤ uN (gr (t * 4 + q)) := fun q hq => by
    by_cases e : q = gtF gr t 3
    · rw [e, hgx]; exact x2 _ (by omega)
    · rcases Nat.lt_or_ge q l0 with z | z
      · exact absurd (hl3 q z) e
      · exact b2 q z (by omega) e
  have hln : uN (gr (t * 4 + coreL gr t l0)) = uN (mnF gr t 4) := by
    have h1 := n2 (coreL gr t l0) (by omega)
    have h2 := hmin k hk
    omega
  intro j hj
  rw [coF_s hg x1 n1 (by omega) hgx (fun q hq => by rw [← hgx]; exact a2 q hq) b1 hln (fun q hq hne => by
    rw [← hln]
    rcases Nat.lt_or_ge q l0 with z | z
    · exact absurd (hl3 q z) hne
    · exact b3 q z hq hne) j hj]
theorem gV_4 {mn : Nat} {M : Nat → Bool} {o b pr : Nat → UInt64} {k0 : Nat} : gV 4 mn M o b pr k0 = FP.dmul (sMean mn M o b k0) (sMean mn M b o k0) := by
  unfold gV
  rw [if_neg (by decide), if_neg (by decide), if_neg (by decide), if_neg (by decide), if_pos rfl]
theorem gV_8 {mn : Nat} {M : Nat → Bool} {o b pr : Nat → UInt64} {k0 : Nat} : gV 8 mn M o b pr k0 = FP.i2d (nI (dN (o (k0 + 0)) (b (k0 + 0)) (M (k0 + 0)) + dN (o (k0 + 1)) (b (k0 + 1)) (M (k0 + 1)) + dN (o (k0 + 3)) (b (k0 + 3)) (M (k0 + 3)))) := by
  unfold gV
  rw [if_neg (by decide), if_neg (by decide), if_neg (by decide), if_neg (by decide), if_neg (by decide), if_pos rfl]
theorem oj3 {j : Nat} (h : j < 3) : (j = 0 ∧ oo j = 0) ∨ (j = 1 ∧ oo j = 1) ∨ (j = 2 ∧ oo j = 3) := by
  rcases (show j = 0 ∨ j = 1 ∨ j = 2 by omega) with rfl | rfl | rfl
  · exact Or.inl ⟨rfl, rfl⟩
  · exact Or.inr (Or.inl ⟨rfl, rfl⟩)
  · exact Or.inr (Or.inr ⟨rfl, rfl⟩)
theorem gV_o {j mn : Nat} {M : Nat → Bool} {o b pr : Nat → UInt64} {k0 : Nat} (h : j < 3) : gV j mn M o b pr k0 = pr (k0 + oo j) := by
  unfold gV
  rcases oj3 h with ⟨rfl, e⟩ | ⟨rfl, e⟩ | ⟨rfl, e⟩
  · rw [if_pos rfl, e]
  · rw [if_neg (by decide), if_pos rfl, e]
  · rw [if_neg (by decide), if_neg (by decide), if_pos rfl, e]
theorem gV_is {j mn : Nat} {M : Nat → Bool} {o b pr : Nat → UInt64} {k0 : Nat} (h : j < 3) : gV (5 + j) mn M o b pr k0 = if M (k0 + oo j) = true then FP.dconst1 else 0 := by
  unfold gV
  rcases oj3 h with ⟨rfl, e⟩ | ⟨rfl, e⟩ | ⟨rfl, e⟩ <;> rw [e] <;> rfl
theorem one_gt : Dgt FP.dconst1 4602678819172646912 := by decide +kernel
theorem zero_ngt : ¬ Dgt 0 4602678819172646912 := by decide +kernel
/-- the doubts of a month, item by item -/
def dSm (M : Nat → Bool) (o b : Nat → UInt64) (t : Nat) : Nat → Nat
  | 0 => 0
  | k + 1 => dSm M o b t k + (dN (o (t * 48 + k * 4 + 0 + 0)) (b (t * 48 + k * 4 + 0 + 0)) (M (t * 48 + k * 4 + 0 + 0)) + dN (o (t * 48 + k * 4 + 0 + 1)) (b (t * 48 + k * 4 + 0 + 1)) (M (t * 48 + k * 4 + 0 + 1)) + dN (o (t * 48 + k * 4 + 0 + 3)) (b (t * 48 + k * 4 + 0 + 3)) (M (t * 48 + k * 4 + 0 + 3)))
theorem dSm_le (M : Nat → Bool) (o b : Nat → UInt64) (t : Nat) : ∀ k, dSm M o b t k ≤ k * 3
  | 0 => Nat.le_refl 0
  | k + 1 => by
    have h := dSm_le M o b t k
    unfold dSm
    have h1 := dN_le (o (t * 48 + k * 4 + 0 + 0)) (b (t * 48 + k * 4 + 0 + 0)) (M (t * 48 + k * 4 + 0 + 0))
    have h2 := dN_le (o (t * 48 + k * 4 + 0 + 1)) (b (t * 48 + k * 4 + 0 + 1)) (M (t * 48 + k * 4 + 0 + 1))
    have h3 := dN_le (o (t * 48 + k * 4 + 0 + 3)) (b (t * 48 + k * 4 + 0 + 3)) (M (t * 48 + k * 4 + 0 + 3))
    omega
theorem rate_gt {c g : Nat → Nat} {k : Nat} (bc : c k ≤ 100000) (bg : g k ≤ 10000) (h : c k = 0 ↔ g k = 0) : Dgt (sRate c g k) 0 ↔ 0 < c k := by
  unfold sRate
  by_cases q : g k = 0
  · rw [if_pos q]
    exact ⟨fun z => absurd z z_ngt, fun z => by have := h.mpr q; omega⟩
  · rw [if_neg q]
    have hr := rate_Rg (c := c k) (g := g k) (Nat.pos_of_ne_zero (fun z => q (h.mp z))) bc (Nat.pos_of_ne_zero q) bg
    exact ⟨fun _ => Nat.pos_of_ne_zero (fun z => q (h.mp z)), fun _ => (gt0 hr.1).mpr hr.pos⟩
theorem dbF_b {M : Nat → Bool} {c : Nat → Nat} {b o : Nat → UInt64} {k0 j q : Nat} (e : k0 + j = q) (h : Dgt (o q) 0 ↔ 0 < c q) : dbF M c b k0 (j + 1) = dbF M c b k0 j + dN (o q) (b q) (M q) := by
  subst e
  show (if _ then _ else _) = _
  unfold dN
  by_cases z : 0 < c (k0 + j) ∧ Dgt (b (k0 + j)) 0 ∧ M (k0 + j) = false
  · rw [if_pos z, if_pos ⟨h.mpr z.1, z.2⟩]
  · rw [if_neg z, if_neg (fun w => z ⟨h.mp w.1, w.2⟩)]; rfl
theorem doubts_eq {M : Nat → Bool} {c : Nat → Nat} {b o : Nat → UInt64} {t n : Nat} (h : ∀ q, Dgt (o q) 0 ↔ 0 < c q) (hn : n ≤ 12) (hz2 : ∀ i, i < 12 → c (t * 48 + i * 4 + 0 + 2) = 0) (hZ : ∀ i, n ≤ i → i < 12 → ∀ j, j < 4 → c (t * 48 + i * 4 + 0 + j) = 0) : dbF M c b (t * 48) 48 = dSm M o b t n := by
  have h1 : ∀ k, k ≤ 12 → dbF M c b (t * 48) (4 * k) = dSm M o b t k := by
    intro k
    induction k with
    | zero => exact fun _ => rfl
    | succ k ih =>
      intro hk
      rw [show 4 * (k + 1) = 4 * k + 3 + 1 by omega]
      rw [dbF_b (o := o) (q := t * 48 + k * 4 + 0 + 3) (by omega) (h _), dbF_b (o := o) (j := 4 * k + 2) (q := t * 48 + k * 4 + 0 + 2) (by omega) (h _), dbF_b (o := o) (j := 4 * k + 1) (q := t * 48 + k * 4 + 0 + 1) (by omega) (h _), dbF_b (o := o) (j := 4 * k) (q := t * 48 + k * 4 + 0 + 0) (by omega) (h _), ih (by omega)]
      rw [show dN (o (t * 48 + k * 4 + 0 + 2)) (b (t * 48 + k * 4 + 0 + 2)) (M (t * 48 + k * 4 + 0 + 2)) = 0 from if_neg (fun z => by have := (h _).mp z.1; rw [hz2 k (by omega)] at this; omega)]
      show _ = dSm M o b t k + (_ + _ + _)
      omega
  rw [← h1 n hn]
  have e := dbF_more (M := M) (c := c) (b := b) (k0 := t * 48) (n := 4 * n) (48 - 4 * n) (fun i h2 h3 => by
    have h4 := hZ (i / 4) (by omega) (by omega) (i % 4) (by omega)
    rw [show t * 48 + i / 4 * 4 + 0 + i % 4 = t * 48 + i by omega] at h4
    exact h4)
  rw [show 4 * n + (48 - 4 * n) = 48 by omega] at e
  exact e
theorem pr_2 {cf : Nat → Bool} {c g lc lg MM G : Nat → Nat} {shr rel pr grp idx : Nat → UInt64} {T : Nat} (hs : SerOK cf c g lc lg MM G shr rel pr grp idx T) (hz2 : ∀ t i, i < 12 → g (t * 48 + i * 4 + 0 + 2) = 0 ∧ lc (t * 48 + i * 4 + 0 + 2) = 0) : ∀ t, t < T → ∀ i, i < 12 → pr (t * 48 + i * 4 + 0 + 2) = 0
  | 0, ht, i, hi => by
    rw [(hs 0 ht).2.1 i hi 2 (by decide)]
    refine price_Z (if_pos (hz2 0 i hi).1) ?_
    unfold sBase
    rw [if_pos (by omega)]
  | t + 1, ht, i, hi => by
    rw [(hs (t + 1) ht).2.1 i hi 2 (by decide)]
    refine price_Z (if_pos (hz2 (t + 1) i hi).1) ?_
    unfold sBase
    rw [if_neg (by omega), show (t + 1) * 48 + i * 4 + 0 + 2 - 48 = t * 48 + i * 4 + 0 + 2 by omega, if_pos (hz2 t i hi).2]
    exact pr_2 hs hz2 t (by omega) i hi
