abbrev SG : Type := (Nat → Int32) × Int32 × (Nat → Int32) × Int32 × (Nat → Int32) × (Nat → Int32) × (Nat → Int32) × Int32 × Int32 × (Nat → Int32) × Int32 × Int32 × Int32 × Int32 × Int32
def gdr (σ : SG) : (Nat → Int32) := σ.1
def sdr (σ : SG) (v : (Nat → Int32)) : SG := (v, σ.2)
def gdc (σ : SG) : Int32 := σ.2.1
def sdc (σ : SG) (v : Int32) : SG := (σ.1, v, σ.2.2)
def gtx (σ : SG) : (Nat → Int32) := σ.2.2.1
def stx (σ : SG) (v : (Nat → Int32)) : SG := (σ.1, σ.2.1, v, σ.2.2.2)
def gtc (σ : SG) : Int32 := σ.2.2.2.1
def stc (σ : SG) (v : Int32) : SG := (σ.1, σ.2.1, σ.2.2.1, v, σ.2.2.2.2)
def grg (σ : SG) : (Nat → Int32) := σ.2.2.2.2.1
def srg (σ : SG) (v : (Nat → Int32)) : SG := (σ.1, σ.2.1, σ.2.2.1, σ.2.2.2.1, v, σ.2.2.2.2.2)
def gmm (σ : SG) : (Nat → Int32) := σ.2.2.2.2.2.1
def smm (σ : SG) (v : (Nat → Int32)) : SG := (σ.1, σ.2.1, σ.2.2.1, σ.2.2.2.1, σ.2.2.2.2.1, v, σ.2.2.2.2.2.2)
def gti (σ : SG) : (Nat → Int32) := σ.2.2.2.2.2.2.1
def sti (σ : SG) (v : (Nat → Int32)) : SG := (σ.1, σ.2.1, σ.2.2.1, σ.2.2.2.1, σ.2.2.2.2.1, σ.2.2.2.2.2.1, v, σ.2.2.2.2.2.2.2)
def gic (σ : SG) : Int32 := σ.2.2.2.2.2.2.2.1
def sic (σ : SG) (v : Int32) : SG := (σ.1, σ.2.1, σ.2.2.1, σ.2.2.2.1, σ.2.2.2.2.1, σ.2.2.2.2.2.1, σ.2.2.2.2.2.2.1, v, σ.2.2.2.2.2.2.2.2)
def gir (σ : SG) : Int32 := σ.2.2.2.2.2.2.2.2.1
def sir (σ : SG) (v : Int32) : SG := (σ.1, σ.2.1, σ.2.2.1, σ.2.2.2.1, σ.2.2.2.2.1, σ.2.2.2.2.2.1, σ.2.2.2.2.2.2.1, σ.2.2.2.2.2.2.2.1, v, σ.2.2.2.2.2.2.2.2.2)
def gto (σ : SG) : (Nat → Int32) := σ.2.2.2.2.2.2.2.2.2.1
def sto (σ : SG) (v : (Nat → Int32)) : SG := (σ.1, σ.2.1, σ.2.2.1, σ.2.2.2.1, σ.2.2.2.2.1, σ.2.2.2.2.2.1, σ.2.2.2.2.2.2.1, σ.2.2.2.2.2.2.2.1, σ.2.2.2.2.2.2.2.2.1, v, σ.2.2.2.2.2.2.2.2.2.2)
def goc (σ : SG) : Int32 := σ.2.2.2.2.2.2.2.2.2.2.1
def soc (σ : SG) (v : Int32) : SG := (σ.1, σ.2.1, σ.2.2.1, σ.2.2.2.1, σ.2.2.2.2.1, σ.2.2.2.2.2.1, σ.2.2.2.2.2.2.1, σ.2.2.2.2.2.2.2.1, σ.2.2.2.2.2.2.2.2.1, σ.2.2.2.2.2.2.2.2.2.1, v, σ.2.2.2.2.2.2.2.2.2.2.2)
def gpc (σ : SG) : Int32 := σ.2.2.2.2.2.2.2.2.2.2.2.1
def spc (σ : SG) (v : Int32) : SG := (σ.1, σ.2.1, σ.2.2.1, σ.2.2.2.1, σ.2.2.2.2.1, σ.2.2.2.2.2.1, σ.2.2.2.2.2.2.1, σ.2.2.2.2.2.2.2.1, σ.2.2.2.2.2.2.2.2.1, σ.2.2.2.2.2.2.2.2.2.1, σ.2.2.2.2.2.2.2.2.2.2.1, v, σ.2.2.2.2.2.2.2.2.2.2.2.2)
def gus (σ : SG) : Int32 := σ.2.2.2.2.2.2.2.2.2.2.2.2.1
def sus (σ : SG) (v : Int32) : SG := (σ.1, σ.2.1, σ.2.2.1, σ.2.2.2.1, σ.2.2.2.2.1, σ.2.2.2.2.2.1, σ.2.2.2.2.2.2.1, σ.2.2.2.2.2.2.2.1, σ.2.2.2.2.2.2.2.2.1, σ.2.2.2.2.2.2.2.2.2.1, σ.2.2.2.2.2.2.2.2.2.2.1, σ.2.2.2.2.2.2.2.2.2.2.2.1, v, σ.2.2.2.2.2.2.2.2.2.2.2.2.2)
def gou (σ : SG) : Int32 := σ.2.2.2.2.2.2.2.2.2.2.2.2.2.1
def sou (σ : SG) (v : Int32) : SG := (σ.1, σ.2.1, σ.2.2.1, σ.2.2.2.1, σ.2.2.2.2.1, σ.2.2.2.2.2.1, σ.2.2.2.2.2.2.1, σ.2.2.2.2.2.2.2.1, σ.2.2.2.2.2.2.2.2.1, σ.2.2.2.2.2.2.2.2.2.1, σ.2.2.2.2.2.2.2.2.2.2.1, σ.2.2.2.2.2.2.2.2.2.2.2.1, σ.2.2.2.2.2.2.2.2.2.2.2.2.1, v, σ.2.2.2.2.2.2.2.2.2.2.2.2.2.2)
def gec (σ : SG) : Int32 := σ.2.2.2.2.2.2.2.2.2.2.2.2.2.2
def sec (σ : SG) (v : Int32) : SG := (σ.1, σ.2.1, σ.2.2.1, σ.2.2.2.1, σ.2.2.2.2.1, σ.2.2.2.2.2.1, σ.2.2.2.2.2.2.1, σ.2.2.2.2.2.2.2.1, σ.2.2.2.2.2.2.2.2.1, σ.2.2.2.2.2.2.2.2.2.1, σ.2.2.2.2.2.2.2.2.2.2.1, σ.2.2.2.2.2.2.2.2.2.2.2.1, σ.2.2.2.2.2.2.2.2.2.2.2.2.1, σ.2.2.2.2.2.2.2.2.2.2.2.2.2.1, v)
abbrev wG (q : Nat → Nat) (cA : Nat → ClassId) (σ : SG) : va_W := [(q 0, .inr (0, [.ref (q 1), .int (gdc σ), .ref (q 2), .int (gtc σ), .ref (q 3), .ref (q 4), .ref (q 5), .int (gic σ), .int (gir σ), .ref (q 6), .int (goc σ), .int (gpc σ), .int (gus σ), .int (gou σ), .int (gec σ)])), (q 1, .inl (cA 1, 64, .inl (gdr σ))), (q 2, .inl (cA 2, 64, .inl (gtx σ))), (q 3, .inl (cA 3, 34, .inl (grg σ))), (q 4, .inl (cA 4, 256, .inl (gmm σ))), (q 5, .inl (cA 5, 64, .inl (gti σ))), (q 6, .inl (cA 6, 256, .inl (gto σ)))]
abbrev tG (cA : Nat → ClassId) : List (ClassId × FieldType) := [(cA 1, .int), (cA 2, .int), (cA 3, .int), (cA 4, .int), (cA 5, .int), (cA 6, .int)]
def FG_word (σ : SG) (a1 : Int32) : Int32 × SG :=
  (if (gdc σ) < (64 : Int32) then (((gdc σ) + (1 : Int32)), (sdc (sdr σ (upd (gdr σ) (Int32.toNatClampNeg (gdc σ)) a1)) ((gdc σ) + (1 : Int32)))) else ((-2 : Int32), σ))
def FG_set (σ : SG) (a1 : Int32) (a2 : Int32) : Int32 × SG :=
  (if a1 < (0 : Int32) then ((-1 : Int32), σ) else (if a1 < (gdc σ) then ((1 : Int32), (sdr σ (upd (gdr σ) (Int32.toNatClampNeg a1) a2))) else ((-1 : Int32), σ)))
def FG_isByte (a1 : Int32) : Int32 :=
  (if a1 < (0 : Int32) then (0 : Int32) else (if (255 : Int32) < a1 then (0 : Int32) else (1 : Int32)))
def FG_input (σ : SG) (a1 : Int32) : Int32 × SG :=
  (if (FG_isByte a1) = (0 : Int32) then ((-1 : Int32), σ) else (if (gic σ) < (64 : Int32) then (((gic σ) + (1 : Int32)), (sic (sti σ (upd (gti σ) (Int32.toNatClampNeg (gic σ)) a1)) ((gic σ) + (1 : Int32)))) else ((-2 : Int32), σ)))
def FG_isDataIndex (a1 : Int32) : Int32 :=
  (if a1 < (0 : Int32) then (0 : Int32) else (if (256 : Int32) ≤ a1 then (0 : Int32) else (1 : Int32)))
def FG_data (σ : SG) (a1 : Int32) (a2 : Int32) : Int32 × SG :=
  (if (FG_isDataIndex a1) = (0 : Int32) then ((-1 : Int32), σ) else (if (FG_isByte a2) = (0 : Int32) then ((-1 : Int32), σ) else ((1 : Int32), (smm σ (upd (gmm σ) (Int32.toNatClampNeg a1) a2)))))
def LG_begin2 : Nat → SG → Int32 → Int32 × SG
  | 0, σ, _ => (0, σ)
  | n + 1, σ, x1 =>
    (if (34 : Int32) ≤ x1 then ((gtc σ), (sec (sou (sus (spc (soc (sir (srg σ (upd (grg σ) (Int32.toNatClampNeg (29 : Int32)) (268435712 : Int32))) (0 : Int32)) (0 : Int32)) (0 : Int32)) (0 : Int32)) (0 : Int32)) (0 : Int32))) else (LG_begin2 n (srg σ (upd (grg σ) (Int32.toNatClampNeg x1) (0 : Int32))) (x1 + 1)))
def LG_begin1 : Nat → SG → Int32 → Int32 × SG
  | 0, σ, _ => (0, σ)
  | n + 1, σ, x1 =>
    (if (gdc σ) ≤ x1 then (LG_begin2 36 (stc σ (gdc σ)) (0 : Int32)) else (LG_begin1 n (stx σ (upd (gtx σ) (Int32.toNatClampNeg x1) ((gdr σ) (Int32.toNatClampNeg x1)))) (x1 + 1)))
def FG_begin (σ : SG) : Int32 × SG :=
  (LG_begin1 66 σ (0 : Int32))
def FG_isInText (σ : SG) (a1 : Int32) : Int32 :=
  (if a1 < (0 : Int32) then (0 : Int32) else (if (gtc σ) ≤ a1 then (0 : Int32) else (1 : Int32)))
def FG_opOf (a1 : Int32) : Int32 :=
  (jushr a1 (26 : Int32))
def FG_fOf (a1 : Int32) : Int32 :=
  (a1 &&& (63 : Int32))
def FG_tOf (a1 : Int32) : Int32 :=
  ((jushr a1 (16 : Int32)) &&& (31 : Int32))
def FG_isTurn (a1 : Int32) : Int32 :=
  (if (FG_opOf a1) = (0 : Int32) then (if (FG_fOf a1) = (8 : Int32) then (1 : Int32) else (if (FG_fOf a1) = (9 : Int32) then (1 : Int32) else (0 : Int32))) else (if (FG_opOf a1) = (1 : Int32) then (if (FG_tOf a1) = (0 : Int32) then (1 : Int32) else (if (FG_tOf a1) = (1 : Int32) then (1 : Int32) else (if (FG_tOf a1) = (16 : Int32) then (1 : Int32) else (if (FG_tOf a1) = (17 : Int32) then (1 : Int32) else (0 : Int32))))) else (if (FG_opOf a1) < (2 : Int32) then (0 : Int32) else (if (7 : Int32) < (FG_opOf a1) then (0 : Int32) else (1 : Int32)))))
def FG_isBarredFromSlots (a1 : Int32) : Int32 :=
  (if (FG_opOf a1) = (0 : Int32) then (if (FG_fOf a1) = (12 : Int32) then (1 : Int32) else (if (FG_fOf a1) = (13 : Int32) then (1 : Int32) else (if (FG_isTurn a1) = (0 : Int32) then (0 : Int32) else (1 : Int32)))) else (if (FG_isTurn a1) = (0 : Int32) then (0 : Int32) else (1 : Int32)))
def FG_sOf (a1 : Int32) : Int32 :=
  ((jushr a1 (21 : Int32)) &&& (31 : Int32))
def FG_turnGoes (σ : SG) (a1 : Int32) : Int32 :=
  (if (FG_opOf a1) = (1 : Int32) then (if ((FG_tOf a1) &&& (1 : Int32)) = (0 : Int32) then (if (0 : Int32) ≤ ((grg σ) (Int32.toNatClampNeg (FG_sOf a1))) then (0 : Int32) else (1 : Int32)) else (if ((grg σ) (Int32.toNatClampNeg (FG_sOf a1))) < (0 : Int32) then (0 : Int32) else (1 : Int32))) else (if (FG_opOf a1) = (2 : Int32) then (1 : Int32) else (if (FG_opOf a1) = (3 : Int32) then (1 : Int32) else (if (FG_opOf a1) = (4 : Int32) then (if ((grg σ) (Int32.toNatClampNeg (FG_sOf a1))) = ((grg σ) (Int32.toNatClampNeg (FG_tOf a1))) then (1 : Int32) else (0 : Int32)) else (if (FG_opOf a1) = (5 : Int32) then (if ((grg σ) (Int32.toNatClampNeg (FG_sOf a1))) = ((grg σ) (Int32.toNatClampNeg (FG_tOf a1))) then (0 : Int32) else (1 : Int32)) else (if (FG_opOf a1) = (6 : Int32) then (if (0 : Int32) < ((grg σ) (Int32.toNatClampNeg (FG_sOf a1))) then (0 : Int32) else (1 : Int32)) else (if (FG_opOf a1) = (7 : Int32) then (if ((grg σ) (Int32.toNatClampNeg (FG_sOf a1))) ≤ (0 : Int32) then (0 : Int32) else (1 : Int32)) else (1 : Int32))))))))
def FG_isTextAddress (σ : SG) (a1 : Int32) : Int32 :=
  (if (a1 - (4194304 : Int32)) < (0 : Int32) then (0 : Int32) else (if ((4 : Int32) * (gtc σ)) ≤ (a1 - (4194304 : Int32)) then (0 : Int32) else (1 : Int32)))
def FG_wordAt (σ : SG) (a1 : Int32) : Int32 :=
  (if (a1 &&& (3 : Int32)) = (0 : Int32) then (if (FG_isTextAddress σ a1) = (0 : Int32) then (-1 : Int32) else ((a1 - (4194304 : Int32)) >>> ((2 : Int32) &&& 31))) else (-1 : Int32))
def FG_addressOf (a1 : Int32) : Int32 :=
  ((4194304 : Int32) + ((4 : Int32) * a1))
def FG_signedImmediate (a1 : Int32) : Int32 :=
  ((a1 <<< ((16 : Int32) &&& 31)) >>> ((16 : Int32) &&& 31))
def FG_aimOf (σ : SG) (a1 : Int32) : Int32 :=
  (if (FG_opOf a1) = (0 : Int32) then (FG_wordAt σ ((grg σ) (Int32.toNatClampNeg (FG_sOf a1)))) else (if (FG_opOf a1) = (1 : Int32) then (((gpc σ) + (1 : Int32)) + (FG_signedImmediate a1)) else (if (FG_opOf a1) = (2 : Int32) then (FG_wordAt σ (((FG_addressOf ((gpc σ) + (1 : Int32))) &&& (-268435456 : Int32)) ||| ((a1 &&& (67108863 : Int32)) <<< ((2 : Int32) &&& 31)))) else (if (FG_opOf a1) = (3 : Int32) then (FG_wordAt σ (((FG_addressOf ((gpc σ) + (1 : Int32))) &&& (-268435456 : Int32)) ||| ((a1 &&& (67108863 : Int32)) <<< ((2 : Int32) &&& 31)))) else (((gpc σ) + (1 : Int32)) + (FG_signedImmediate a1))))))
def FG_dOf (a1 : Int32) : Int32 :=
  ((jushr a1 (11 : Int32)) &&& (31 : Int32))
def FG_linkRegisterOf (a1 : Int32) : Int32 :=
  (if (FG_opOf a1) = (0 : Int32) then (if (FG_fOf a1) = (9 : Int32) then (FG_dOf a1) else (0 : Int32)) else (if (FG_opOf a1) = (1 : Int32) then (if (FG_tOf a1) < (16 : Int32) then (0 : Int32) else (31 : Int32)) else (if (FG_opOf a1) = (2 : Int32) then (0 : Int32) else (if (FG_opOf a1) = (3 : Int32) then (31 : Int32) else (0 : Int32)))))
def FG_put (σ : SG) (a1 : Int32) (a2 : Int32) : Int32 × SG :=
  (if a1 ≤ (0 : Int32) then ((0 : Int32), σ) else (if (34 : Int32) ≤ a1 then ((0 : Int32), σ) else ((0 : Int32), (srg σ (upd (grg σ) (Int32.toNatClampNeg a1) a2)))))
def FG_hOf (a1 : Int32) : Int32 :=
  ((jushr a1 (6 : Int32)) &&& (31 : Int32))
def FG_performShift (σ : SG) (a1 : Int32) : Int32 × SG :=
  (if (FG_fOf a1) = (0 : Int32) then (FG_put σ (FG_dOf a1) (((grg σ) (Int32.toNatClampNeg (FG_tOf a1))) <<< ((FG_hOf a1) &&& 31))) else (if (FG_fOf a1) = (1 : Int32) then ((1 : Int32), σ) else (if (FG_fOf a1) = (2 : Int32) then (FG_put σ (FG_dOf a1) (jushr ((grg σ) (Int32.toNatClampNeg (FG_tOf a1))) (FG_hOf a1))) else (if (FG_fOf a1) = (3 : Int32) then (FG_put σ (FG_dOf a1) (((grg σ) (Int32.toNatClampNeg (FG_tOf a1))) >>> ((FG_hOf a1) &&& 31))) else (if (FG_fOf a1) = (4 : Int32) then (FG_put σ (FG_dOf a1) (((grg σ) (Int32.toNatClampNeg (FG_tOf a1))) <<< ((((grg σ) (Int32.toNatClampNeg (FG_sOf a1))) &&& (31 : Int32)) &&& 31))) else (if (FG_fOf a1) = (5 : Int32) then ((1 : Int32), σ) else (if (FG_fOf a1) = (6 : Int32) then (FG_put σ (FG_dOf a1) (jushr ((grg σ) (Int32.toNatClampNeg (FG_tOf a1))) (((grg σ) (Int32.toNatClampNeg (FG_sOf a1))) &&& (31 : Int32)))) else (if (FG_fOf a1) = (7 : Int32) then (FG_put σ (FG_dOf a1) (((grg σ) (Int32.toNatClampNeg (FG_tOf a1))) >>> ((((grg σ) (Int32.toNatClampNeg (FG_sOf a1))) &&& (31 : Int32)) &&& 31))) else ((1 : Int32), σ)))))))))
def FG_readByte (σ : SG) : Int32 × SG :=
  (if (gir σ) < (gic σ) then (FG_put (sir σ ((gir σ) + (1 : Int32))) (2 : Int32) ((gti σ) (Int32.toNatClampNeg (gir σ)))) else (FG_put σ (2 : Int32) (-1 : Int32)))
def FG_writeByte (σ : SG) : Int32 × SG :=
  (if (256 : Int32) ≤ (goc σ) then ((0 : Int32), σ) else ((0 : Int32), (soc (sto σ (upd (gto σ) (Int32.toNatClampNeg (goc σ)) (((grg σ) (Int32.toNatClampNeg (4 : Int32))) &&& (255 : Int32)))) ((goc σ) + (1 : Int32)))))
def FG_performSystem (σ : SG) : Int32 × SG :=
  (if ((grg σ) (Int32.toNatClampNeg (2 : Int32))) = (1 : Int32) then (FG_readByte σ) else (if ((grg σ) (Int32.toNatClampNeg (2 : Int32))) = (2 : Int32) then (FG_writeByte σ) else (if ((grg σ) (Int32.toNatClampNeg (2 : Int32))) = (3 : Int32) then ((0 : Int32), (sou (sec σ ((grg σ) (Int32.toNatClampNeg (4 : Int32)))) (1 : Int32))) else ((10 : Int32), σ))))
def FG_putProduct (σ : SG) (a1 : Int64) : Int32 × SG :=
  (FG_put (FG_put σ (32 : Int32) (Int64.toInt32 (jlushr a1 (32 : Int32)))).2 (33 : Int32) (Int64.toInt32 a1))
def FG_unsigned (a1 : Int32) : Int64 :=
  ((Int32.toInt64 a1) &&& (4294967295 : Int64))
def FG_divide (σ : SG) (a1 : Int64) (a2 : Int64) : Int32 × SG :=
  (if (lg_cmp a2 (0 : Int64)) = (0 : Int32) then (FG_put (FG_put σ (32 : Int32) (Int64.toInt32 a1)).2 (33 : Int32) (-1 : Int32)) else (FG_put (FG_put σ (32 : Int32) (Int64.toInt32 (a1 - a1 / a2 * a2))).2 (33 : Int32) (Int64.toInt32 (a1 / a2))))
def FG_performHiLo (σ : SG) (a1 : Int32) : Int32 × SG :=
  (if (FG_fOf a1) = (16 : Int32) then (FG_put σ (FG_dOf a1) ((grg σ) (Int32.toNatClampNeg (32 : Int32)))) else (if (FG_fOf a1) = (17 : Int32) then (FG_put σ (32 : Int32) ((grg σ) (Int32.toNatClampNeg (FG_sOf a1)))) else (if (FG_fOf a1) = (18 : Int32) then (FG_put σ (FG_dOf a1) ((grg σ) (Int32.toNatClampNeg (33 : Int32)))) else (if (FG_fOf a1) = (19 : Int32) then (FG_put σ (33 : Int32) ((grg σ) (Int32.toNatClampNeg (FG_sOf a1)))) else (if (FG_fOf a1) = (20 : Int32) then ((1 : Int32), σ) else (if (FG_fOf a1) = (21 : Int32) then ((1 : Int32), σ) else (if (FG_fOf a1) = (22 : Int32) then ((1 : Int32), σ) else (if (FG_fOf a1) = (23 : Int32) then ((1 : Int32), σ) else (if (FG_fOf a1) = (24 : Int32) then (FG_putProduct σ ((Int32.toInt64 ((grg σ) (Int32.toNatClampNeg (FG_sOf a1)))) * (Int32.toInt64 ((grg σ) (Int32.toNatClampNeg (FG_tOf a1)))))) else (if (FG_fOf a1) = (25 : Int32) then (FG_putProduct σ ((FG_unsigned ((grg σ) (Int32.toNatClampNeg (FG_sOf a1)))) * (FG_unsigned ((grg σ) (Int32.toNatClampNeg (FG_tOf a1)))))) else (if (FG_fOf a1) = (26 : Int32) then (FG_divide σ (Int32.toInt64 ((grg σ) (Int32.toNatClampNeg (FG_sOf a1)))) (Int32.toInt64 ((grg σ) (Int32.toNatClampNeg (FG_tOf a1))))) else (if (FG_fOf a1) = (27 : Int32) then (FG_divide σ (FG_unsigned ((grg σ) (Int32.toNatClampNeg (FG_sOf a1)))) (FG_unsigned ((grg σ) (Int32.toNatClampNeg (FG_tOf a1))))) else ((1 : Int32), σ)))))))))))))
def FG_putUnlessOverflow (σ : SG) (a1 : Int32) (a2 : Int64) : Int32 × SG :=
  (if (lg_cmp a2 (Int32.toInt64 (Int64.toInt32 a2))) = (0 : Int32) then (FG_put σ a1 (Int64.toInt32 a2)) else ((4 : Int32), σ))
def FG_performArithmetic (σ : SG) (a1 : Int32) : Int32 × SG :=
  (if (FG_fOf a1) = (32 : Int32) then (FG_putUnlessOverflow σ (FG_dOf a1) ((Int32.toInt64 ((grg σ) (Int32.toNatClampNeg (FG_sOf a1)))) + (Int32.toInt64 ((grg σ) (Int32.toNatClampNeg (FG_tOf a1)))))) else (if (FG_fOf a1) = (33 : Int32) then (FG_put σ (FG_dOf a1) (((grg σ) (Int32.toNatClampNeg (FG_sOf a1))) + ((grg σ) (Int32.toNatClampNeg (FG_tOf a1))))) else (if (FG_fOf a1) = (34 : Int32) then (FG_putUnlessOverflow σ (FG_dOf a1) ((Int32.toInt64 ((grg σ) (Int32.toNatClampNeg (FG_sOf a1)))) - (Int32.toInt64 ((grg σ) (Int32.toNatClampNeg (FG_tOf a1)))))) else (if (FG_fOf a1) = (35 : Int32) then (FG_put σ (FG_dOf a1) (((grg σ) (Int32.toNatClampNeg (FG_sOf a1))) - ((grg σ) (Int32.toNatClampNeg (FG_tOf a1))))) else (if (FG_fOf a1) = (36 : Int32) then (FG_put σ (FG_dOf a1) (((grg σ) (Int32.toNatClampNeg (FG_sOf a1))) &&& ((grg σ) (Int32.toNatClampNeg (FG_tOf a1))))) else (if (FG_fOf a1) = (37 : Int32) then (FG_put σ (FG_dOf a1) (((grg σ) (Int32.toNatClampNeg (FG_sOf a1))) ||| ((grg σ) (Int32.toNatClampNeg (FG_tOf a1))))) else (if (FG_fOf a1) = (38 : Int32) then (FG_put σ (FG_dOf a1) (((grg σ) (Int32.toNatClampNeg (FG_sOf a1))) ^^^ ((grg σ) (Int32.toNatClampNeg (FG_tOf a1))))) else (if (FG_fOf a1) = (39 : Int32) then (FG_put σ (FG_dOf a1) ((((grg σ) (Int32.toNatClampNeg (FG_sOf a1))) ||| ((grg σ) (Int32.toNatClampNeg (FG_tOf a1)))) ^^^ (-1 : Int32))) else (if (FG_fOf a1) = (40 : Int32) then ((1 : Int32), σ) else (if (FG_fOf a1) = (41 : Int32) then ((1 : Int32), σ) else (if (FG_fOf a1) = (42 : Int32) then (if ((grg σ) (Int32.toNatClampNeg (FG_tOf a1))) ≤ ((grg σ) (Int32.toNatClampNeg (FG_sOf a1))) then (FG_put σ (FG_dOf a1) (0 : Int32)) else (FG_put σ (FG_dOf a1) (1 : Int32))) else (if (FG_fOf a1) = (43 : Int32) then (if (0 : Int32) ≤ (lg_cmp (FG_unsigned ((grg σ) (Int32.toNatClampNeg (FG_sOf a1)))) (FG_unsigned ((grg σ) (Int32.toNatClampNeg (FG_tOf a1))))) then (FG_put σ (FG_dOf a1) (0 : Int32)) else (FG_put σ (FG_dOf a1) (1 : Int32))) else ((1 : Int32), σ)))))))))))))
def FG_performFunction (σ : SG) (a1 : Int32) : Int32 × SG :=
  (if (8 : Int32) ≤ (FG_fOf a1) then (if (FG_fOf a1) = (12 : Int32) then (FG_performSystem σ) else (if (FG_fOf a1) = (13 : Int32) then ((5 : Int32), σ) else (if (32 : Int32) ≤ (FG_fOf a1) then (FG_performArithmetic σ a1) else (FG_performHiLo σ a1)))) else (FG_performShift σ a1))
def FG_plainImmediate (a1 : Int32) : Int32 :=
  (a1 &&& (65535 : Int32))
def FG_performImmediate (σ : SG) (a1 : Int32) : Int32 × SG :=
  (if (FG_opOf a1) = (8 : Int32) then (FG_putUnlessOverflow σ (FG_tOf a1) ((Int32.toInt64 ((grg σ) (Int32.toNatClampNeg (FG_sOf a1)))) + (Int32.toInt64 (FG_signedImmediate a1)))) else (if (FG_opOf a1) = (9 : Int32) then (FG_put σ (FG_tOf a1) (((grg σ) (Int32.toNatClampNeg (FG_sOf a1))) + (FG_signedImmediate a1))) else (if (FG_opOf a1) = (10 : Int32) then (if (FG_signedImmediate a1) ≤ ((grg σ) (Int32.toNatClampNeg (FG_sOf a1))) then (FG_put σ (FG_tOf a1) (0 : Int32)) else (FG_put σ (FG_tOf a1) (1 : Int32))) else (if (FG_opOf a1) = (11 : Int32) then (if (0 : Int32) ≤ (lg_cmp (FG_unsigned ((grg σ) (Int32.toNatClampNeg (FG_sOf a1)))) (FG_unsigned (FG_signedImmediate a1))) then (FG_put σ (FG_tOf a1) (0 : Int32)) else (FG_put σ (FG_tOf a1) (1 : Int32))) else (if (FG_opOf a1) = (12 : Int32) then (FG_put σ (FG_tOf a1) (((grg σ) (Int32.toNatClampNeg (FG_sOf a1))) &&& (FG_plainImmediate a1))) else (if (FG_opOf a1) = (13 : Int32) then (FG_put σ (FG_tOf a1) (((grg σ) (Int32.toNatClampNeg (FG_sOf a1))) ||| (FG_plainImmediate a1))) else (if (FG_opOf a1) = (14 : Int32) then (FG_put σ (FG_tOf a1) (((grg σ) (Int32.toNatClampNeg (FG_sOf a1))) ^^^ (FG_plainImmediate a1))) else (if (FG_opOf a1) = (15 : Int32) then (FG_put σ (FG_tOf a1) ((FG_plainImmediate a1) <<< ((16 : Int32) &&& 31))) else ((1 : Int32), σ)))))))))
def FG_bytesOfAccess (a1 : Int32) : Int32 :=
  (if a1 = (32 : Int32) then (1 : Int32) else (if a1 = (33 : Int32) then (2 : Int32) else (if a1 = (34 : Int32) then (0 : Int32) else (if a1 = (35 : Int32) then (4 : Int32) else (if a1 = (36 : Int32) then (1 : Int32) else (if a1 = (37 : Int32) then (2 : Int32) else (if a1 = (38 : Int32) then (0 : Int32) else (if a1 = (39 : Int32) then (0 : Int32) else (if a1 = (40 : Int32) then (1 : Int32) else (if a1 = (41 : Int32) then (2 : Int32) else (if a1 = (42 : Int32) then (0 : Int32) else (if a1 = (43 : Int32) then (4 : Int32) else (0 : Int32)))))))))))))
def LG_store (a1 a2 a3 : Int32) : Nat → SG → Int32 → Int32 → Int32 × SG
  | 0, σ, _, _ => (0, σ)
  | n + 1, σ, x4, x5 =>
    (if x5 < (0 : Int32) then ((0 : Int32), σ) else (LG_store a1 a2 a3 n (smm σ (upd (gmm σ) (Int32.toNatClampNeg (a1 + x5)) (x4 &&& (255 : Int32)))) (jushr x4 (8 : Int32)) (x5 + (-1))))
def FG_store (σ : SG) (a1 : Int32) (a2 : Int32) (a3 : Int32) : Int32 × SG :=
  (LG_store a1 a2 a3 (a2.toNatClampNeg + 1) σ a3 (a2 - (1 : Int32)))
def LG_load (σ : SG) (a1 a2 a3 : Int32) : Nat → Int32 → Int32 → Int32
  | 0, _, _ => 0
  | n + 1, x4, x5 =>
    (if a2 ≤ x5 then (if a3 = (0 : Int32) then x4 else ((x4 <<< (((32 : Int32) - ((8 : Int32) * a2)) &&& 31)) >>> (((32 : Int32) - ((8 : Int32) * a2)) &&& 31))) else (LG_load σ a1 a2 a3 n ((x4 <<< ((8 : Int32) &&& 31)) ||| ((gmm σ) (Int32.toNatClampNeg (a1 + x5)))) (x5 + 1)))
def FG_load (σ : SG) (a1 : Int32) (a2 : Int32) (a3 : Int32) : Int32 :=
  (LG_load σ a1 a2 a3 (a2.toNatClampNeg + 1) (0 : Int32) (0 : Int32))
def FG_performAccess (σ : SG) (a1 : Int32) : Int32 × SG :=
  (if (FG_bytesOfAccess (FG_opOf a1)) = (0 : Int32) then ((1 : Int32), σ) else (if (FG_opOf a1) < (40 : Int32) then (if ((((grg σ) (Int32.toNatClampNeg (FG_sOf a1))) + (FG_signedImmediate a1)) &&& ((FG_bytesOfAccess (FG_opOf a1)) - (1 : Int32))) = (0 : Int32) then (if ((((grg σ) (Int32.toNatClampNeg (FG_sOf a1))) + (FG_signedImmediate a1)) - (268435456 : Int32)) < (0 : Int32) then ((3 : Int32), σ) else (if ((((grg σ) (Int32.toNatClampNeg (FG_sOf a1))) + (FG_signedImmediate a1)) - (268435456 : Int32)) ≤ ((256 : Int32) - (FG_bytesOfAccess (FG_opOf a1))) then (if (36 : Int32) ≤ (FG_opOf a1) then (FG_put σ (FG_tOf a1) (FG_load σ ((((grg σ) (Int32.toNatClampNeg (FG_sOf a1))) + (FG_signedImmediate a1)) - (268435456 : Int32)) (FG_bytesOfAccess (FG_opOf a1)) (0 : Int32))) else (FG_put σ (FG_tOf a1) (FG_load σ ((((grg σ) (Int32.toNatClampNeg (FG_sOf a1))) + (FG_signedImmediate a1)) - (268435456 : Int32)) (FG_bytesOfAccess (FG_opOf a1)) (1 : Int32)))) else ((3 : Int32), σ))) else ((2 : Int32), σ)) else (if ((((grg σ) (Int32.toNatClampNeg (FG_sOf a1))) + (FG_signedImmediate a1)) &&& ((FG_bytesOfAccess (FG_opOf a1)) - (1 : Int32))) = (0 : Int32) then (if ((((grg σ) (Int32.toNatClampNeg (FG_sOf a1))) + (FG_signedImmediate a1)) - (268435456 : Int32)) < (0 : Int32) then (if (FG_isTextAddress σ (((grg σ) (Int32.toNatClampNeg (FG_sOf a1))) + (FG_signedImmediate a1))) = (0 : Int32) then ((3 : Int32), σ) else ((6 : Int32), σ)) else (if ((((grg σ) (Int32.toNatClampNeg (FG_sOf a1))) + (FG_signedImmediate a1)) - (268435456 : Int32)) ≤ ((256 : Int32) - (FG_bytesOfAccess (FG_opOf a1))) then (FG_store σ ((((grg σ) (Int32.toNatClampNeg (FG_sOf a1))) + (FG_signedImmediate a1)) - (268435456 : Int32)) (FG_bytesOfAccess (FG_opOf a1)) ((grg σ) (Int32.toNatClampNeg (FG_tOf a1)))) else (if (FG_isTextAddress σ (((grg σ) (Int32.toNatClampNeg (FG_sOf a1))) + (FG_signedImmediate a1))) = (0 : Int32) then ((3 : Int32), σ) else ((6 : Int32), σ)))) else ((2 : Int32), σ))))
def FG_perform (σ : SG) (a1 : Int32) : Int32 × SG :=
  (if (FG_opOf a1) = (0 : Int32) then (FG_performFunction σ a1) else (if (32 : Int32) ≤ (FG_opOf a1) then (FG_performAccess σ a1) else (FG_performImmediate σ a1)))
def FG_stepOfTwo (σ : SG) (a1 : Int32) : Int32 × SG :=
  (if (FG_isInText σ ((gpc σ) + (1 : Int32))) = (0 : Int32) then ((7 : Int32), σ) else (if (FG_isBarredFromSlots ((gtx σ) (Int32.toNatClampNeg ((gpc σ) + (1 : Int32))))) = (0 : Int32) then (if (FG_turnGoes σ a1) = (0 : Int32) then (if (FG_perform (FG_put σ (FG_linkRegisterOf a1) (FG_addressOf ((gpc σ) + (2 : Int32)))).2 ((gtx σ) (Int32.toNatClampNeg ((gpc σ) + (1 : Int32))))).1 = (0 : Int32) then ((0 : Int32), (spc (FG_perform (FG_put σ (FG_linkRegisterOf a1) (FG_addressOf ((gpc σ) + (2 : Int32)))).2 ((gtx σ) (Int32.toNatClampNeg ((gpc σ) + (1 : Int32))))).2 (((gpc σ) + (1 : Int32)) + (1 : Int32)))) else ((FG_perform (FG_put σ (FG_linkRegisterOf a1) (FG_addressOf ((gpc σ) + (2 : Int32)))).2 ((gtx σ) (Int32.toNatClampNeg ((gpc σ) + (1 : Int32))))).1, (srg (FG_perform (FG_put σ (FG_linkRegisterOf a1) (FG_addressOf ((gpc σ) + (2 : Int32)))).2 ((gtx σ) (Int32.toNatClampNeg ((gpc σ) + (1 : Int32))))).2 (upd (grg (FG_perform (FG_put σ (FG_linkRegisterOf a1) (FG_addressOf ((gpc σ) + (2 : Int32)))).2 ((gtx σ) (Int32.toNatClampNeg ((gpc σ) + (1 : Int32))))).2) (Int32.toNatClampNeg (FG_linkRegisterOf a1)) ((grg σ) (Int32.toNatClampNeg (FG_linkRegisterOf a1))))))) else (if (FG_isInText σ (FG_aimOf σ a1)) = (0 : Int32) then ((7 : Int32), σ) else (if (FG_perform (FG_put σ (FG_linkRegisterOf a1) (FG_addressOf ((gpc σ) + (2 : Int32)))).2 ((gtx σ) (Int32.toNatClampNeg ((gpc σ) + (1 : Int32))))).1 = (0 : Int32) then ((0 : Int32), (spc (FG_perform (FG_put σ (FG_linkRegisterOf a1) (FG_addressOf ((gpc σ) + (2 : Int32)))).2 ((gtx σ) (Int32.toNatClampNeg ((gpc σ) + (1 : Int32))))).2 (FG_aimOf σ a1))) else ((FG_perform (FG_put σ (FG_linkRegisterOf a1) (FG_addressOf ((gpc σ) + (2 : Int32)))).2 ((gtx σ) (Int32.toNatClampNeg ((gpc σ) + (1 : Int32))))).1, (srg (FG_perform (FG_put σ (FG_linkRegisterOf a1) (FG_addressOf ((gpc σ) + (2 : Int32)))).2 ((gtx σ) (Int32.toNatClampNeg ((gpc σ) + (1 : Int32))))).2 (upd (grg (FG_perform (FG_put σ (FG_linkRegisterOf a1) (FG_addressOf ((gpc σ) + (2 : Int32)))).2 ((gtx σ) (Int32.toNatClampNeg ((gpc σ) + (1 : Int32))))).2) (Int32.toNatClampNeg (FG_linkRegisterOf a1)) ((grg σ) (Int32.toNatClampNeg (FG_linkRegisterOf a1))))))))) else ((8 : Int32), σ)))
def FG_stepOfOne (σ : SG) (a1 : Int32) : Int32 × SG :=
  (if (FG_perform σ a1).1 = (0 : Int32) then (if (gou (FG_perform σ a1).2) = (0 : Int32) then ((FG_perform σ a1).1, (spc (FG_perform σ a1).2 ((gpc (FG_perform σ a1).2) + (1 : Int32)))) else (FG_perform σ a1)) else (FG_perform σ a1))
def LG_run (a1 : Int32) : Nat → SG → Int32 → Int32 → Int32 × SG
  | 0, σ, _, _ => (0, σ)
  | n + 1, σ, x2, x3 =>
    (if a1 < x3 then ((gou σ), σ) else (if (gou σ) = (0 : Int32) then (if (FG_isInText σ (gpc σ)) = (0 : Int32) then ((17 : Int32), (sou σ (17 : Int32))) else (if (FG_isTurn ((gtx σ) (Int32.toNatClampNeg (gpc σ)))) = (0 : Int32) then (if (1 : Int32) ≤ x2 then (if (FG_stepOfOne σ ((gtx σ) (Int32.toNatClampNeg (gpc σ)))).1 = (0 : Int32) then (LG_run a1 n (sus (FG_stepOfOne σ ((gtx σ) (Int32.toNatClampNeg (gpc σ)))).2 ((gus (FG_stepOfOne σ ((gtx σ) (Int32.toNatClampNeg (gpc σ)))).2) + (1 : Int32))) (x2 - (1 : Int32)) (x3 + 1)) else (((10 : Int32) + (FG_stepOfOne σ ((gtx σ) (Int32.toNatClampNeg (gpc σ)))).1), (sou (FG_stepOfOne σ ((gtx σ) (Int32.toNatClampNeg (gpc σ)))).2 ((10 : Int32) + (FG_stepOfOne σ ((gtx σ) (Int32.toNatClampNeg (gpc σ)))).1)))) else ((0 : Int32), σ)) else (if (2 : Int32) ≤ x2 then (if (FG_stepOfTwo σ ((gtx σ) (Int32.toNatClampNeg (gpc σ)))).1 = (0 : Int32) then (LG_run a1 n (sus (FG_stepOfTwo σ ((gtx σ) (Int32.toNatClampNeg (gpc σ)))).2 ((gus (FG_stepOfTwo σ ((gtx σ) (Int32.toNatClampNeg (gpc σ)))).2) + (2 : Int32))) (x2 - (2 : Int32)) (x3 + 1)) else (((10 : Int32) + (FG_stepOfTwo σ ((gtx σ) (Int32.toNatClampNeg (gpc σ)))).1), (sou (FG_stepOfTwo σ ((gtx σ) (Int32.toNatClampNeg (gpc σ)))).2 ((10 : Int32) + (FG_stepOfTwo σ ((gtx σ) (Int32.toNatClampNeg (gpc σ)))).1)))) else ((0 : Int32), σ)))) else ((gou σ), σ)))
def FG_run (σ : SG) (a1 : Int32) : Int32 × SG :=
  (if a1 < (1 : Int32) then ((-1 : Int32), σ) else (if a1 ≤ (2000 : Int32) then (LG_run a1 2003 σ a1 (0 : Int32)) else ((-1 : Int32), σ)))
def FG_register (σ : SG) (a1 : Int32) : Int32 :=
  (if a1 = (34 : Int32) then (gpc σ) else (if a1 = (35 : Int32) then (gus σ) else (if a1 < (0 : Int32) then (0 : Int32) else (if (34 : Int32) ≤ a1 then (0 : Int32) else ((grg σ) (Int32.toNatClampNeg a1))))))
def FG_give (σ : SG) (a1 : Int32) (a2 : Int32) : Int32 × SG :=
  (if a1 < (1 : Int32) then ((-1 : Int32), σ) else (if a1 < (34 : Int32) then ((1 : Int32), (srg σ (upd (grg σ) (Int32.toNatClampNeg a1) a2))) else ((-1 : Int32), σ)))
def FG_byteOf (σ : SG) (a1 : Int32) : Int32 :=
  (if (FG_isDataIndex a1) = (0 : Int32) then (-1 : Int32) else ((gmm σ) (Int32.toNatClampNeg a1)))
def FG_output (σ : SG) (a1 : Int32) : Int32 :=
  (if a1 < (0 : Int32) then (-1 : Int32) else (if (goc σ) ≤ a1 then (-1 : Int32) else ((gto σ) (Int32.toNatClampNeg a1))))
def FG_code (σ : SG) : Int32 :=
  (gec σ)
def ZSG : SG := ((fun _ => 0), 0, (fun _ => 0), 0, (upd (fun _ => 0) (Int32.toNatClampNeg (29 : Int32)) (268435712 : Int32)), (fun _ => 0), (fun _ => 0), 0, 0, (fun _ => 0), 0, 0, 0, 0, 0)
