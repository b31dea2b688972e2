def sM_isOutput (τ : T2) (p0 : Int32) : Int32 :=
  if p0 ≤ 0 then 0
  else if (τ 13 0) < p0 then 0
  else 1
def sM_isWriter (τ : T2) (p0 : Int32) : Int32 :=
  if p0 ≤ 0 then 0
  else if (τ 19 0) < p0 then 0
  else 1
def sM_isGone (τ : T2) (p0 : Int32) : Int32 :=
  if (τ 6 p0.toNatClampNeg) = 4 then 1
  else if (τ 6 p0.toNatClampNeg) = 5 then 1
  else 0
def sM_pagesOf (τ : T2) (p0 : Int32) : Int32 :=
  (((τ 7 p0.toNatClampNeg) + 8) - 1) / 8
def sM_free_s (τ : T2) (i : Nat) (a : Int32) : Int32 :=
  if (sM_isGone τ (nI (i + 1))) = 0 then a - (sM_pagesOf τ (nI (i + 1)))
  else a - 0
def sM_free_F (τ : T2) : Nat → Int32
  | 0 => τ 0 0
  | i + 1 => sM_free_s τ i (sM_free_F τ i)
def sM_free_x (τ : T2) (a : Int32) : Int32 :=
  a
def sM_free (τ : T2) : Int32 :=
  sM_free_x τ (sM_free_F τ ((τ 13 0).toNatClampNeg))
def sM_goes (τ : T2) (p0 : Int32) (p1 : Int32) : T2 :=
  upd2 (upd2 τ 6 p0.toNatClampNeg p1) 11 p0.toNatClampNeg (vp_nar .boolean 0)
def sM_create (τ : T2) (p0 : Int32) (p1 : Int32) (p2 : Int32) (p3 : Int32) (p4 : Int32) : T2 :=
  upd2 (upd2 (upd2 (upd2 (upd2 (upd2 (upd2 τ 13 0 ((τ 13 0) + 1)) 1 (((τ 13 0) + 1).toNatClampNeg) p0) 2 (((τ 13 0) + 1).toNatClampNeg) p1) 3 (((τ 13 0) + 1).toNatClampNeg) p2) 4 (((τ 13 0) + 1).toNatClampNeg) p3) 5 (((τ 13 0) + 1).toNatClampNeg) p4) 6 (((τ 13 0) + 1).toNatClampNeg) 1
def sM_fits (τ : T2) (p0 : Int32) (p1 : Int32) : Int32 :=
  if (p1 - p1 / 16 * 16) = 8 then (if (p1 / 16) = 0 then 1
    else if ((p1 / 16) - 1) = (τ 4 p0.toNatClampNeg) then 1
    else 0)
  else if (p1 - p1 / 16 * 16) = (τ 2 p0.toNatClampNeg) then (if (p1 / 16) = 0 then 1
    else if ((p1 / 16) - 1) = (τ 4 p0.toNatClampNeg) then 1
    else 0)
  else 0
def sM_isStill (τ : T2) (p0 : Int32) : Int32 :=
  if (τ 6 p0.toNatClampNeg) = 1 then 1
  else if (τ 6 p0.toNatClampNeg) = 2 then 1
  else 0
def sM_output_s (τ : T2) (p0 : Int32) (p1 : Int32) (p2 : Int32) (i : Nat) (a : Int32) : Int32 :=
  if a = 0 then (if (τ 1 ((nI (i + 1)).toNatClampNeg)) = p0 then (if (sM_isGone τ (nI (i + 1))) = 0 then 1
      else 0)
    else 0)
  else 1
def sM_output_F (τ : T2) (p0 : Int32) (p1 : Int32) (p2 : Int32) : Nat → Int32
  | 0 => 0
  | i + 1 => sM_output_s τ p0 p1 p2 i (sM_output_F τ p0 p1 p2 i)
def sM_output_x (τ : T2) (p0 : Int32) (p1 : Int32) (p2 : Int32) (a : Int32) : Int32 × T2 :=
  if (τ 13 0) = 1000 then (0, τ)
  else if a = 0 then (if ((τ 0 0) / 8) < (sM_free τ) then ((sM_create τ p0 p1 p2 0 0) 13 0, (sM_create τ p0 p1 p2 0 0))
    else (0, τ))
  else ((sM_create τ p0 p1 p2 0 0) 13 0, (sM_create τ p0 p1 p2 0 0))
def sM_output (τ : T2) (p0 : Int32) (p1 : Int32) (p2 : Int32) : Int32 × T2 :=
  if p0 < 1 then ((-1), τ)
  else if 9999 < p0 then ((-1), τ)
  else if p1 < 0 then ((-1), τ)
  else if 7 < p1 then ((-1), τ)
  else if p2 < 1 then ((-1), τ)
  else if p2 ≤ 9 then sM_output_x τ p0 p1 p2 (sM_output_F τ p0 p1 p2 ((τ 13 0).toNatClampNeg))
  else ((-1), τ)
def sM_line (τ : T2) (p0 : Int32) (p1 : Int32) : Int32 × T2 :=
  if (sM_isOutput τ p0) = 0 then ((-1), τ)
  else if p1 < 0 then ((-1), τ)
  else if p1 ≤ 34047 then (if (τ 6 p0.toNatClampNeg) = 1 then (if (τ 8 p0.toNatClampNeg) ≤ 0 then (if ((τ 7 p0.toNatClampNeg) - (τ 7 p0.toNatClampNeg) / 8 * 8) = 0 then (if (sM_free τ) = 0 then ((-3), τ)
          else if (p1 / 256) ≤ 0 then (1, upd2 (upd2 (upd2 (upd2 τ 14 ((τ 16 0).toNatClampNeg) p0) 15 ((τ 16 0).toNatClampNeg) (-1)) 16 0 ((τ 16 0) + 1)) 7 p0.toNatClampNeg ((τ 7 p0.toNatClampNeg) + 1))
          else (1, upd2 (upd2 (upd2 (upd2 τ 14 ((τ 16 0).toNatClampNeg) p0) 15 ((τ 16 0).toNatClampNeg) (p1 - p1 / 256 * 256)) 16 0 ((τ 16 0) + 1)) 7 p0.toNatClampNeg ((τ 7 p0.toNatClampNeg) + 1)))
        else if (p1 / 256) ≤ 0 then (1, upd2 (upd2 (upd2 (upd2 τ 14 ((τ 16 0).toNatClampNeg) p0) 15 ((τ 16 0).toNatClampNeg) (-1)) 16 0 ((τ 16 0) + 1)) 7 p0.toNatClampNeg ((τ 7 p0.toNatClampNeg) + 1))
        else (1, upd2 (upd2 (upd2 (upd2 τ 14 ((τ 16 0).toNatClampNeg) p0) 15 ((τ 16 0).toNatClampNeg) (p1 - p1 / 256 * 256)) 16 0 ((τ 16 0) + 1)) 7 p0.toNatClampNeg ((τ 7 p0.toNatClampNeg) + 1)))
      else if (τ 7 p0.toNatClampNeg) < (τ 8 p0.toNatClampNeg) then (if ((τ 7 p0.toNatClampNeg) - (τ 7 p0.toNatClampNeg) / 8 * 8) = 0 then (if (sM_free τ) = 0 then ((-3), τ)
          else if (p1 / 256) ≤ 0 then (1, upd2 (upd2 (upd2 (upd2 τ 14 ((τ 16 0).toNatClampNeg) p0) 15 ((τ 16 0).toNatClampNeg) (-1)) 16 0 ((τ 16 0) + 1)) 7 p0.toNatClampNeg ((τ 7 p0.toNatClampNeg) + 1))
          else (1, upd2 (upd2 (upd2 (upd2 τ 14 ((τ 16 0).toNatClampNeg) p0) 15 ((τ 16 0).toNatClampNeg) (p1 - p1 / 256 * 256)) 16 0 ((τ 16 0) + 1)) 7 p0.toNatClampNeg ((τ 7 p0.toNatClampNeg) + 1)))
        else if (p1 / 256) ≤ 0 then (1, upd2 (upd2 (upd2 (upd2 τ 14 ((τ 16 0).toNatClampNeg) p0) 15 ((τ 16 0).toNatClampNeg) (-1)) 16 0 ((τ 16 0) + 1)) 7 p0.toNatClampNeg ((τ 7 p0.toNatClampNeg) + 1))
        else (1, upd2 (upd2 (upd2 (upd2 τ 14 ((τ 16 0).toNatClampNeg) p0) 15 ((τ 16 0).toNatClampNeg) (p1 - p1 / 256 * 256)) 16 0 ((τ 16 0) + 1)) 7 p0.toNatClampNeg ((τ 7 p0.toNatClampNeg) + 1)))
      else if (τ 10 p0.toNatClampNeg) = 0 then (if ((τ 7 p0.toNatClampNeg) - (τ 7 p0.toNatClampNeg) / 8 * 8) = 0 then (if (sM_free τ) = 0 then ((-3), τ)
          else if (p1 / 256) ≤ 0 then (2, upd2 (upd2 (upd2 (upd2 τ 14 ((τ 16 0).toNatClampNeg) p0) 15 ((τ 16 0).toNatClampNeg) (-1)) 16 0 ((τ 16 0) + 1)) 7 p0.toNatClampNeg ((τ 7 p0.toNatClampNeg) + 1))
          else (2, upd2 (upd2 (upd2 (upd2 τ 14 ((τ 16 0).toNatClampNeg) p0) 15 ((τ 16 0).toNatClampNeg) (p1 - p1 / 256 * 256)) 16 0 ((τ 16 0) + 1)) 7 p0.toNatClampNeg ((τ 7 p0.toNatClampNeg) + 1)))
        else if (p1 / 256) ≤ 0 then (2, upd2 (upd2 (upd2 (upd2 τ 14 ((τ 16 0).toNatClampNeg) p0) 15 ((τ 16 0).toNatClampNeg) (-1)) 16 0 ((τ 16 0) + 1)) 7 p0.toNatClampNeg ((τ 7 p0.toNatClampNeg) + 1))
        else (2, upd2 (upd2 (upd2 (upd2 τ 14 ((τ 16 0).toNatClampNeg) p0) 15 ((τ 16 0).toNatClampNeg) (p1 - p1 / 256 * 256)) 16 0 ((τ 16 0) + 1)) 7 p0.toNatClampNeg ((τ 7 p0.toNatClampNeg) + 1)))
      else (0, τ))
    else ((-2), τ))
  else ((-1), τ)
def sM_limit (τ : T2) (p0 : Int32) (p1 : Int32) (p2 : Int32) : Int32 × T2 :=
  if (sM_isOutput τ p0) = 0 then ((-1), τ)
  else if 0 ≤ p1 then (if (sM_isGone τ p0) = 0 then (1, upd2 (upd2 τ 8 p0.toNatClampNeg p1) 10 p0.toNatClampNeg (vp_nar .boolean p2))
    else ((-2), τ))
  else ((-1), τ)
def sM_end_s (τ : T2) (p0 : Int32) (i : Nat) (a : Int32) (τ1 : T2) : Int32 × T2 :=
  if (τ1 1 ((nI (i + 1)).toNatClampNeg)) = p0 then (if (τ1 6 ((nI (i + 1)).toNatClampNeg)) = 1 then (if (τ1 7 ((nI (i + 1)).toNatClampNeg)) = 0 then (a + 1, (sM_goes τ1 (nI (i + 1)) 5))
      else (a + 1, upd2 τ1 6 ((nI (i + 1)).toNatClampNeg) 2))
    else (a, τ1))
  else (a, τ1)
def sM_end_F (τ : T2) (p0 : Int32) : Nat → Int32 × T2
  | 0 => (0, τ)
  | i + 1 => sM_end_s τ p0 i (sM_end_F τ p0 i).1 (sM_end_F τ p0 i).2
def sM_end_x (τ : T2) (p0 : Int32) (a : Int32) (τ1 : T2) : Int32 × T2 :=
  (a, τ1)
def sM_end (τ : T2) (p0 : Int32) : Int32 × T2 :=
  sM_end_x τ p0 (sM_end_F τ p0 ((τ 13 0).toNatClampNeg)).1 (sM_end_F τ p0 ((τ 13 0).toNatClampNeg)).2
def sM_segment (τ : T2) (p0 : Int32) : Int32 × T2 :=
  if (sM_isOutput τ p0) = 0 then ((-1), τ)
  else if (τ 6 p0.toNatClampNeg) = 1 then (if (τ 7 p0.toNatClampNeg) = 0 then ((-2), τ)
    else if (τ 13 0) = 1000 then (0, τ)
    else ((sM_create (upd2 τ 6 p0.toNatClampNeg 2) (τ 1 p0.toNatClampNeg) (τ 2 p0.toNatClampNeg) (τ 3 p0.toNatClampNeg) (τ 4 p0.toNatClampNeg) (τ 5 p0.toNatClampNeg)) 13 0, upd2 (upd2 (upd2 (sM_create (upd2 τ 6 p0.toNatClampNeg 2) (τ 1 p0.toNatClampNeg) (τ 2 p0.toNatClampNeg) (τ 3 p0.toNatClampNeg) (τ 4 p0.toNatClampNeg) (τ 5 p0.toNatClampNeg)) 8 (((sM_create (upd2 τ 6 p0.toNatClampNeg 2) (τ 1 p0.toNatClampNeg) (τ 2 p0.toNatClampNeg) (τ 3 p0.toNatClampNeg) (τ 4 p0.toNatClampNeg) (τ 5 p0.toNatClampNeg)) 13 0).toNatClampNeg) ((sM_create (upd2 τ 6 p0.toNatClampNeg 2) (τ 1 p0.toNatClampNeg) (τ 2 p0.toNatClampNeg) (τ 3 p0.toNatClampNeg) (τ 4 p0.toNatClampNeg) (τ 5 p0.toNatClampNeg)) 8 p0.toNatClampNeg)) 10 (((sM_create (upd2 τ 6 p0.toNatClampNeg 2) (τ 1 p0.toNatClampNeg) (τ 2 p0.toNatClampNeg) (τ 3 p0.toNatClampNeg) (τ 4 p0.toNatClampNeg) (τ 5 p0.toNatClampNeg)) 13 0).toNatClampNeg) (vp_nar .boolean ((sM_create (upd2 τ 6 p0.toNatClampNeg 2) (τ 1 p0.toNatClampNeg) (τ 2 p0.toNatClampNeg) (τ 3 p0.toNatClampNeg) (τ 4 p0.toNatClampNeg) (τ 5 p0.toNatClampNeg)) 10 p0.toNatClampNeg))) 11 (((sM_create (upd2 τ 6 p0.toNatClampNeg 2) (τ 1 p0.toNatClampNeg) (τ 2 p0.toNatClampNeg) (τ 3 p0.toNatClampNeg) (τ 4 p0.toNatClampNeg) (τ 5 p0.toNatClampNeg)) 13 0).toNatClampNeg) (vp_nar .boolean ((sM_create (upd2 τ 6 p0.toNatClampNeg 2) (τ 1 p0.toNatClampNeg) (τ 2 p0.toNatClampNeg) (τ 3 p0.toNatClampNeg) (τ 4 p0.toNatClampNeg) (τ 5 p0.toNatClampNeg)) 11 p0.toNatClampNeg))))
  else ((-2), τ)
def sM_writer (τ : T2) (p0 : Int32) : Int32 × T2 :=
  if p0 < 0 then ((-1), τ)
  else if 8 < (p0 - p0 / 16 * 16) then ((-1), τ)
  else if (p0 / 16) ≤ 8 then (if (τ 19 0) = 9 then (0, τ)
    else ((τ 19 0) + 1, upd2 (upd2 τ 19 0 ((τ 19 0) + 1)) 17 (((τ 19 0) + 1).toNatClampNeg) p0))
  else ((-1), τ)
def sM_next_s (τ : T2) (p0 : Int32) (i : Nat) (a : Int32) : Int32 :=
  if (τ 6 ((nI (i + 1)).toNatClampNeg)) = 2 then (if (τ 11 ((nI (i + 1)).toNatClampNeg)) = 0 then (if (τ 7 ((nI (i + 1)).toNatClampNeg)) = 0 then a
      else if (sM_fits τ (nI (i + 1)) (τ 17 p0.toNatClampNeg)) = 0 then a
      else if a = 0 then nI (i + 1)
      else if (τ 5 a.toNatClampNeg) < (τ 5 ((nI (i + 1)).toNatClampNeg)) then nI (i + 1)
      else if (τ 5 ((nI (i + 1)).toNatClampNeg)) = (τ 5 a.toNatClampNeg) then (if (τ 1 a.toNatClampNeg) ≤ (τ 1 ((nI (i + 1)).toNatClampNeg)) then a
        else nI (i + 1))
      else a)
    else a)
  else a
def sM_next_F (τ : T2) (p0 : Int32) : Nat → Int32
  | 0 => 0
  | i + 1 => sM_next_s τ p0 i (sM_next_F τ p0 i)
def sM_next_x (τ : T2) (p0 : Int32) (a : Int32) : Int32 × T2 :=
  if a = 0 then (0, τ)
  else (a, upd2 (upd2 τ 6 a.toNatClampNeg 3) 18 p0.toNatClampNeg a)
def sM_next (τ : T2) (p0 : Int32) : Int32 × T2 :=
  if (sM_isWriter τ p0) = 0 then ((-1), τ)
  else if (τ 18 p0.toNatClampNeg) = 0 then sM_next_x τ p0 (sM_next_F τ p0 ((τ 13 0).toNatClampNeg))
  else ((-2), τ)
def sM_print (τ : T2) (p0 : Int32) (p1 : Int32) : Int32 × T2 :=
  if (sM_isWriter τ p0) = 0 then ((-1), τ)
  else if 0 ≤ p1 then (if (τ 18 p0.toNatClampNeg) = 0 then ((-2), τ)
    else if (((sM_pagesOf τ (τ 18 p0.toNatClampNeg)) * (τ 3 ((τ 18 p0.toNatClampNeg).toNatClampNeg))) - (τ 9 ((τ 18 p0.toNatClampNeg).toNatClampNeg))) ≤ p1 then (if (((sM_pagesOf τ (τ 18 p0.toNatClampNeg)) * (τ 3 ((τ 18 p0.toNatClampNeg).toNatClampNeg))) - (τ 9 ((τ 18 p0.toNatClampNeg).toNatClampNeg))) ≤ (((sM_pagesOf τ (τ 18 p0.toNatClampNeg)) * (τ 3 ((τ 18 p0.toNatClampNeg).toNatClampNeg))) - (τ 9 ((τ 18 p0.toNatClampNeg).toNatClampNeg))) then (((sM_pagesOf τ (τ 18 p0.toNatClampNeg)) * (τ 3 ((τ 18 p0.toNatClampNeg).toNatClampNeg))) - (τ 9 ((τ 18 p0.toNatClampNeg).toNatClampNeg)), upd2 (upd2 (upd2 (sM_goes (upd2 (upd2 τ 9 ((τ 18 p0.toNatClampNeg).toNatClampNeg) ((τ 9 ((τ 18 p0.toNatClampNeg).toNatClampNeg)) + (((sM_pagesOf τ (τ 18 p0.toNatClampNeg)) * (τ 3 ((τ 18 p0.toNatClampNeg).toNatClampNeg))) - (τ 9 ((τ 18 p0.toNatClampNeg).toNatClampNeg))))) 22 0 ((τ 22 0) + (((sM_pagesOf τ (τ 18 p0.toNatClampNeg)) * (τ 3 ((τ 18 p0.toNatClampNeg).toNatClampNeg))) - (τ 9 ((τ 18 p0.toNatClampNeg).toNatClampNeg))))) (τ 18 p0.toNatClampNeg) 4) 20 (((sM_goes (upd2 (upd2 τ 9 ((τ 18 p0.toNatClampNeg).toNatClampNeg) ((τ 9 ((τ 18 p0.toNatClampNeg).toNatClampNeg)) + (((sM_pagesOf τ (τ 18 p0.toNatClampNeg)) * (τ 3 ((τ 18 p0.toNatClampNeg).toNatClampNeg))) - (τ 9 ((τ 18 p0.toNatClampNeg).toNatClampNeg))))) 22 0 ((τ 22 0) + (((sM_pagesOf τ (τ 18 p0.toNatClampNeg)) * (τ 3 ((τ 18 p0.toNatClampNeg).toNatClampNeg))) - (τ 9 ((τ 18 p0.toNatClampNeg).toNatClampNeg))))) (τ 18 p0.toNatClampNeg) 4) 21 0).toNatClampNeg) (τ 18 p0.toNatClampNeg)) 21 0 (((sM_goes (upd2 (upd2 τ 9 ((τ 18 p0.toNatClampNeg).toNatClampNeg) ((τ 9 ((τ 18 p0.toNatClampNeg).toNatClampNeg)) + (((sM_pagesOf τ (τ 18 p0.toNatClampNeg)) * (τ 3 ((τ 18 p0.toNatClampNeg).toNatClampNeg))) - (τ 9 ((τ 18 p0.toNatClampNeg).toNatClampNeg))))) 22 0 ((τ 22 0) + (((sM_pagesOf τ (τ 18 p0.toNatClampNeg)) * (τ 3 ((τ 18 p0.toNatClampNeg).toNatClampNeg))) - (τ 9 ((τ 18 p0.toNatClampNeg).toNatClampNeg))))) (τ 18 p0.toNatClampNeg) 4) 21 0) + 1)) 18 p0.toNatClampNeg 0)
      else (((sM_pagesOf τ (τ 18 p0.toNatClampNeg)) * (τ 3 ((τ 18 p0.toNatClampNeg).toNatClampNeg))) - (τ 9 ((τ 18 p0.toNatClampNeg).toNatClampNeg)), upd2 (upd2 τ 9 ((τ 18 p0.toNatClampNeg).toNatClampNeg) ((τ 9 ((τ 18 p0.toNatClampNeg).toNatClampNeg)) + (((sM_pagesOf τ (τ 18 p0.toNatClampNeg)) * (τ 3 ((τ 18 p0.toNatClampNeg).toNatClampNeg))) - (τ 9 ((τ 18 p0.toNatClampNeg).toNatClampNeg))))) 22 0 ((τ 22 0) + (((sM_pagesOf τ (τ 18 p0.toNatClampNeg)) * (τ 3 ((τ 18 p0.toNatClampNeg).toNatClampNeg))) - (τ 9 ((τ 18 p0.toNatClampNeg).toNatClampNeg))))))
    else (p1, upd2 (upd2 τ 9 ((τ 18 p0.toNatClampNeg).toNatClampNeg) ((τ 9 ((τ 18 p0.toNatClampNeg).toNatClampNeg)) + p1)) 22 0 ((τ 22 0) + p1)))
  else ((-1), τ)
def sM_cut (τ : T2) (p0 : Int32) : Int32 × T2 :=
  if (sM_isWriter τ p0) = 0 then ((-1), τ)
  else if (τ 18 p0.toNatClampNeg) = 0 then ((-2), τ)
  else if (τ 12 ((τ 18 p0.toNatClampNeg).toNatClampNeg)) = 0 then (((τ 9 ((τ 18 p0.toNatClampNeg).toNatClampNeg)) / 4) * 4, upd2 (upd2 τ 23 0 ((τ 23 0) + ((τ 9 ((τ 18 p0.toNatClampNeg).toNatClampNeg)) - (((τ 9 ((τ 18 p0.toNatClampNeg).toNatClampNeg)) / 4) * 4)))) 9 ((τ 18 p0.toNatClampNeg).toNatClampNeg) (((τ 9 ((τ 18 p0.toNatClampNeg).toNatClampNeg)) / 4) * 4))
  else (((τ 9 ((τ 18 p0.toNatClampNeg).toNatClampNeg)) / 4) * 4, upd2 (sM_goes τ (τ 18 p0.toNatClampNeg) 5) 18 p0.toNatClampNeg 0)
def sM_purge (τ : T2) (p0 : Int32) : Int32 × T2 :=
  if (sM_isOutput τ p0) = 0 then ((-1), τ)
  else if (sM_isGone τ p0) = 0 then (if (τ 6 p0.toNatClampNeg) = 3 then (0, upd2 τ 12 p0.toNatClampNeg (vp_nar .boolean 1))
    else (1, (sM_goes τ p0 5)))
  else ((-2), τ)
def sM_hold (τ : T2) (p0 : Int32) (p1 : Int32) : Int32 × T2 :=
  if (sM_isOutput τ p0) = 0 then ((-1), τ)
  else if (sM_isStill τ p0) = 0 then ((-2), τ)
  else if (τ 11 p0.toNatClampNeg) = 0 then (0, upd2 τ 11 p0.toNatClampNeg (vp_nar .boolean p1))
  else (1, upd2 τ 11 p0.toNatClampNeg (vp_nar .boolean p1))
def sM_route (τ : T2) (p0 : Int32) (p1 : Int32) : Int32 × T2 :=
  if (sM_isOutput τ p0) = 0 then ((-1), τ)
  else if p1 < 0 then ((-1), τ)
  else if p1 ≤ 63 then (if (sM_isStill τ p0) = 0 then ((-2), τ)
    else ((8 * (τ 5 p0.toNatClampNeg)) + (τ 4 p0.toNatClampNeg), upd2 (upd2 τ 5 p0.toNatClampNeg (p1 / 8)) 4 p0.toNatClampNeg (p1 - p1 / 8 * 8)))
  else ((-1), τ)
def sM_search_s (τ : T2) (p0 : Int32) (i : Nat) (a : Int32) : Int32 :=
  if (τ 15 ((nI i).toNatClampNeg)) = p0 then (if (sM_isGone τ (τ 14 ((nI i).toNatClampNeg))) = 0 then a + 1
    else a + 0)
  else a + 0
def sM_search_F (τ : T2) (p0 : Int32) : Nat → Int32
  | 0 => 0
  | i + 1 => sM_search_s τ p0 i (sM_search_F τ p0 i)
def sM_search_x (τ : T2) (p0 : Int32) (a : Int32) : Int32 :=
  a
def sM_search (τ : T2) (p0 : Int32) : Int32 :=
  if p0 < 0 then (-1)
  else if p0 ≤ 255 then sM_search_x τ p0 (sM_search_F τ p0 ((τ 16 0).toNatClampNeg))
  else (-1)
def sM_order (τ : T2) (p0 : Int32) : Int32 :=
  if p0 < 0 then 0
  else if (τ 21 0) ≤ p0 then 0
  else τ 20 p0.toNatClampNeg
def sM_state (τ : T2) (p0 : Int32) (p1 : Int32) : Int32 :=
  if (sM_isOutput τ p0) = 0 then (-1)
  else if p1 = 0 then (if (τ 11 p0.toNatClampNeg) = 0 then (τ 6 p0.toNatClampNeg) + 0
    else (τ 6 p0.toNatClampNeg) + 6)
  else if p1 = 1 then τ 7 p0.toNatClampNeg
  else if p1 = 2 then sM_pagesOf τ p0
  else if p1 = 3 then τ 9 p0.toNatClampNeg
  else if p1 = 4 then τ 1 p0.toNatClampNeg
  else if p1 = 5 then (if (sM_pagesOf τ p0) = 0 then τ 3 p0.toNatClampNeg
    else (τ 3 p0.toNatClampNeg) - ((τ 9 p0.toNatClampNeg) / (sM_pagesOf τ p0)))
  else (-1)
def sM_count_s (τ : T2) (p0 : Int32) (i : Nat) (a : Int32) : Int32 :=
  if (sM_isGone τ (nI (i + 1))) = 0 then a + 1
  else a + 0
def sM_count_F (τ : T2) (p0 : Int32) : Nat → Int32
  | 0 => 0
  | i + 1 => sM_count_s τ p0 i (sM_count_F τ p0 i)
def sM_count_x (τ : T2) (p0 : Int32) (a : Int32) : Int32 :=
  if p0 = 0 then sM_free τ
  else if p0 = 1 then a
  else if p0 = 2 then τ 19 0
  else if p0 = 3 then τ 22 0
  else if p0 = 4 then τ 23 0
  else (-1)
def sM_count (τ : T2) (p0 : Int32) : Int32 :=
  sM_count_x τ p0 (sM_count_F τ p0 ((τ 13 0).toNatClampNeg))
def sO_isGone (σ : T2) (j : Nat) : Int32 :=
  if (σ 26 j) = 4 then 1
  else if (σ 26 j) = 5 then 1
  else 0
def sO_isOpenOrReleased (σ : T2) (j : Nat) : Int32 :=
  if (σ 26 j) = 1 then 1
  else if (σ 26 j) = 2 then 1
  else 0
def sO_mayBePrinted (σ : T2) (j : Nat) : Int32 :=
  if (σ 26 j) = 2 then (if (σ 27 j) = 0 then (if (σ 28 j) ≤ 0 then 0
      else 1)
    else 0)
  else 0
def sO_isAtLimit (σ : T2) (j : Nat) : Int32 :=
  if (σ 29 j) ≤ 0 then 0
  else if (σ 28 j) < (σ 29 j) then 0
  else 1
def sO_needsPage (σ : T2) (j : Nat) : Int32 :=
  if ((σ 28 j) - (σ 28 j) / 8 * 8) = 0 then 1
  else 0
def sO_pageCount (σ : T2) (j : Nat) : Int32 :=
  (((σ 28 j) + 8) - 1) / 8
def sO_pagesToPrint (σ : T2) (j : Nat) : Int32 :=
  ((sO_pageCount σ j) * (σ 23 j)) - (σ 31 j)
def sO_lastCheckpoint (σ : T2) (j : Nat) : Int32 :=
  (σ 31 j) - ((σ 31 j) - (σ 31 j) / 4 * 4)
def sO_copiesLeft (σ : T2) (j : Nat) : Int32 :=
  if (sO_pageCount σ j) = 0 then σ 23 j
  else (σ 23 j) - ((σ 31 j) / (sO_pageCount σ j))
def sO_comesBefore (σ : T2) (j : Nat) (j0 : Nat) : Int32 :=
  if (σ 25 j) = (σ 25 j0) then (if (σ 21 j) = (σ 21 j0) then (if (σ 20 j0) ≤ (σ 20 j) then 0
      else 1)
    else if (σ 21 j0) ≤ (σ 21 j) then 0
    else 1)
  else if (σ 25 j) ≤ (σ 25 j0) then 0
  else 1
def sW_suits (σ : T2) (w : Nat) (j0 : Nat) : Int32 :=
  if (σ 40 w) = 8 then (if (σ 41 w) = (-1) then 1
    else if (σ 41 w) = (σ 24 j0) then 1
    else 0)
  else if (σ 40 w) = (σ 22 j0) then (if (σ 41 w) = (-1) then 1
    else if (σ 41 w) = (σ 24 j0) then 1
    else 0)
  else 0
def sO_takeSettingsOf (σ : T2) (j : Nat) (j0 : Nat) : T2 :=
  upd2 (upd2 (upd2 (upd2 (upd2 σ 24 j (σ 24 j0)) 25 j (σ 25 j0)) 29 j (σ 29 j0)) 30 j (σ 30 j0)) 27 j (σ 27 j0)
def sC_isWithin (p0 : Int32) (p1 : Int32) (p2 : Int32) : Int32 :=
  if p0 < p1 then 0
  else if p2 < p0 then 0
  else 1
def sC_outputOf (ad : Nat → Nat) (σ : T2) (p0 : Int32) : Option Nat :=
  if (sC_isWithin p0 1 (σ 3 0)) = 0 then none
  else some (ad (p0 - 1).toNatClampNeg)
def sC_writerOf (wd : Nat → Nat) (σ : T2) (p0 : Int32) : Option Nat :=
  if (sC_isWithin p0 1 (σ 5 0)) = 0 then none
  else some (wd (p0 - 1).toNatClampNeg)
def sC_isThere (σ : T2) (p0 : Int32) : Int32 :=
  if (sC_isWithin p0 1 (σ 3 0)) = 0 then 0
  else if (sO_isGone σ ((p0 - 1).toNatClampNeg)) = 0 then 1
  else 0
def sC_hasRoomForLine (σ : T2) (j0 : Nat) : Int32 :=
  if 0 < (σ 1 0) then 1
  else if (sO_needsPage σ j0) = 0 then 1
  else 0
def sC_letGo (σ : T2) (j0 : Nat) (p1 : Int32) : T2 :=
  upd2 (upd2 (upd2 σ 26 j0 p1) 27 j0 0) 1 0 ((σ 1 0) + (sO_pageCount (upd2 (upd2 σ 26 j0 p1) 27 j0 0) j0))
def sC_releaseOrPurge (σ : T2) (j0 : Nat) : T2 :=
  if (σ 28 j0) = 0 then (sC_letGo σ j0 5)
  else upd2 σ 26 j0 2
def sC_keepSign (σ : T2) (p0 : Int32) (p1 : Int32) : T2 :=
  if 512 ≤ (σ 10 0) then σ
  else upd2 (upd2 (upd2 σ 8 ((σ 10 0).toNatClampNeg) p0) 9 ((σ 10 0).toNatClampNeg) p1) 10 0 ((σ 10 0) + 1)
def sC_takeLine (σ : T2) (j0 : Nat) (p1 : Int32) : T2 :=
  if (sO_needsPage σ j0) = 0 then (if (p1 / 256) ≤ 0 then upd2 σ 28 j0 ((σ 28 j0) + 1)
    else (sC_keepSign (upd2 σ 28 j0 ((σ 28 j0) + 1)) (p1 - p1 / 256 * 256) (σ 20 j0)))
  else if (p1 / 256) ≤ 0 then upd2 (upd2 σ 1 0 ((σ 1 0) - 1)) 28 j0 ((σ 28 j0) + 1)
  else (sC_keepSign (upd2 (upd2 σ 1 0 ((σ 1 0) - 1)) 28 j0 ((σ 28 j0) + 1)) (p1 - p1 / 256 * 256) (σ 20 j0))
def sC_noteInOrder (σ : T2) (j0 : Nat) : T2 :=
  if 1000 ≤ (σ 7 0) then σ
  else upd2 (upd2 σ 6 ((σ 7 0).toNatClampNeg) (σ 20 j0)) 7 0 ((σ 7 0) + 1)
def sC_hasOutputThere_s (σ : T2) (p0 : Int32) (i : Nat) : Int32 :=
  if (σ 21 (((nI (i + 1)) - 1).toNatClampNeg)) = p0 then (if (sO_isGone σ (((nI (i + 1)) - 1).toNatClampNeg)) = 0 then 1
    else 0)
  else 0
def sC_hasOutputThere_F (σ : T2) (p0 : Int32) : Nat → Int32
  | 0 => 0
  | i + 1 => if sC_hasOutputThere_F σ p0 i = 0 then sC_hasOutputThere_s σ p0 i else sC_hasOutputThere_F σ p0 i
def sC_hasOutputThere (σ : T2) (p0 : Int32) : Int32 :=
  (sC_hasOutputThere_F σ p0 ((σ 3 0).toNatClampNeg))
def sC_outputsThere_s (σ : T2) (i : Nat) (a : Int32) : Int32 :=
  if (sC_isThere σ (nI (i + 1))) = 0 then a
  else a + 1
def sC_outputsThere_F (σ : T2) : Nat → Int32
  | 0 => 0
  | i + 1 => sC_outputsThere_s σ i (sC_outputsThere_F σ i)
def sC_outputsThere_x (σ : T2) (a : Int32) : Int32 :=
  a
def sC_outputsThere (σ : T2) : Int32 :=
  sC_outputsThere_x σ (sC_outputsThere_F σ ((σ 3 0).toNatClampNeg))
def sC_firstFor_s (σ : T2) (w0 : Nat) (i : Nat) (a : Int32) : Int32 :=
  if a = 0 then (if (sO_mayBePrinted σ (((nI (i + 1)) - 1).toNatClampNeg)) = 0 then a
    else if (sW_suits σ w0 (((nI (i + 1)) - 1).toNatClampNeg)) = 0 then a
    else nI ((((nI (i + 1)) - 1).toNatClampNeg) + 1))
  else if (sO_mayBePrinted σ (((nI (i + 1)) - 1).toNatClampNeg)) = 0 then a
  else if (sW_suits σ w0 (((nI (i + 1)) - 1).toNatClampNeg)) = 0 then a
  else if (sO_comesBefore σ (((nI (i + 1)) - 1).toNatClampNeg) ((a - 1).toNatClampNeg)) = 0 then a
  else nI ((((nI (i + 1)) - 1).toNatClampNeg) + 1)
def sC_firstFor_F (σ : T2) (w0 : Nat) : Nat → Int32
  | 0 => 0
  | i + 1 => sC_firstFor_s σ w0 i (sC_firstFor_F σ w0 i)
def sC_firstFor (σ : T2) (w0 : Nat) : Int32 :=
  (sC_firstFor_F σ w0 ((σ 3 0).toNatClampNeg))
def sC_line (σ : T2) (p0 : Int32) (p1 : Int32) : Int32 × T2 :=
  if (sC_isWithin p0 1 (σ 3 0)) = 0 then ((-1), σ)
  else if (sC_isWithin p1 0 34047) = 0 then ((-1), σ)
  else if (σ 26 ((p0 - 1).toNatClampNeg)) = 1 then (if (sO_isAtLimit σ ((p0 - 1).toNatClampNeg)) = 0 then (if (sC_hasRoomForLine σ ((p0 - 1).toNatClampNeg)) = 0 then ((-3), σ)
      else (1, (sC_takeLine σ ((p0 - 1).toNatClampNeg) p1)))
    else if (σ 30 ((p0 - 1).toNatClampNeg)) = 0 then (if (sC_hasRoomForLine σ ((p0 - 1).toNatClampNeg)) = 0 then ((-3), σ)
      else (2, (sC_takeLine σ ((p0 - 1).toNatClampNeg) p1)))
    else (0, σ))
  else ((-2), σ)
def sC_limit (σ : T2) (p0 : Int32) (p1 : Int32) (p2 : Int32) : Int32 × T2 :=
  if (sC_isWithin p0 1 (σ 3 0)) = 0 then ((-1), σ)
  else if 0 ≤ p1 then (if (sO_isGone σ ((p0 - 1).toNatClampNeg)) = 0 then (1, upd2 (upd2 σ 29 ((p0 - 1).toNatClampNeg) p1) 30 ((p0 - 1).toNatClampNeg) p2)
    else ((-2), σ))
  else ((-1), σ)
def sC_end_s (σ : T2) (p0 : Int32) (i : Nat) (a : Int32) (σ1 : T2) : Int32 × T2 :=
  if (σ1 21 (((nI (i + 1)) - 1).toNatClampNeg)) = p0 then (if (σ1 26 (((nI (i + 1)) - 1).toNatClampNeg)) = 1 then (a + 1, (sC_releaseOrPurge σ1 (((nI (i + 1)) - 1).toNatClampNeg)))
    else (a, σ1))
  else (a, σ1)
def sC_end_F (σ : T2) (p0 : Int32) : Nat → Int32 × T2
  | 0 => (0, σ)
  | i + 1 => sC_end_s σ p0 i (sC_end_F σ p0 i).1 (sC_end_F σ p0 i).2
def sC_end_x (σ : T2) (p0 : Int32) (a : Int32) (σ1 : T2) : Int32 × T2 :=
  (a, σ1)
def sC_end (σ : T2) (p0 : Int32) : Int32 × T2 :=
  sC_end_x σ p0 (sC_end_F σ p0 ((σ 3 0).toNatClampNeg)).1 (sC_end_F σ p0 ((σ 3 0).toNatClampNeg)).2
def sC_next (σ : T2) (p0 : Int32) : Int32 × T2 :=
  if (sC_isWithin p0 1 (σ 5 0)) = 0 then ((-1), σ)
  else if (σ 42 ((p0 - 1).toNatClampNeg)) = 0 then (if (sC_firstFor σ ((p0 - 1).toNatClampNeg)) = 0 then (0, σ)
    else (σ 20 (((sC_firstFor σ ((p0 - 1).toNatClampNeg)) - 1).toNatClampNeg), upd2 (upd2 σ 26 (((sC_firstFor σ ((p0 - 1).toNatClampNeg)) - 1).toNatClampNeg) 3) 42 ((p0 - 1).toNatClampNeg) (nI ((((sC_firstFor σ ((p0 - 1).toNatClampNeg)) - 1).toNatClampNeg) + 1))))
  else ((-2), σ)
def sC_print (σ : T2) (p0 : Int32) (p1 : Int32) : Int32 × T2 :=
  if (sC_isWithin p0 1 (σ 5 0)) = 0 then ((-1), σ)
  else if 0 ≤ p1 then (if (σ 42 ((p0 - 1).toNatClampNeg)) = 0 then ((-2), σ)
    else if (sO_pagesToPrint (upd2 (upd2 σ 31 (((σ 42 ((p0 - 1).toNatClampNeg)) - 1).toNatClampNeg) ((σ 31 (((σ 42 ((p0 - 1).toNatClampNeg)) - 1).toNatClampNeg)) + (if (sO_pagesToPrint σ (((σ 42 ((p0 - 1).toNatClampNeg)) - 1).toNatClampNeg)) < p1 then (sO_pagesToPrint σ (((σ 42 ((p0 - 1).toNatClampNeg)) - 1).toNatClampNeg)) else p1))) 11 0 ((σ 11 0) + (if (sO_pagesToPrint σ (((σ 42 ((p0 - 1).toNatClampNeg)) - 1).toNatClampNeg)) < p1 then (sO_pagesToPrint σ (((σ 42 ((p0 - 1).toNatClampNeg)) - 1).toNatClampNeg)) else p1))) (((σ 42 ((p0 - 1).toNatClampNeg)) - 1).toNatClampNeg)) = 0 then (if (sO_pagesToPrint σ (((σ 42 ((p0 - 1).toNatClampNeg)) - 1).toNatClampNeg)) < p1 then (sO_pagesToPrint σ (((σ 42 ((p0 - 1).toNatClampNeg)) - 1).toNatClampNeg)) else p1, (sC_letGo (sC_noteInOrder (upd2 (upd2 (upd2 σ 31 (((σ 42 ((p0 - 1).toNatClampNeg)) - 1).toNatClampNeg) ((σ 31 (((σ 42 ((p0 - 1).toNatClampNeg)) - 1).toNatClampNeg)) + (if (sO_pagesToPrint σ (((σ 42 ((p0 - 1).toNatClampNeg)) - 1).toNatClampNeg)) < p1 then (sO_pagesToPrint σ (((σ 42 ((p0 - 1).toNatClampNeg)) - 1).toNatClampNeg)) else p1))) 11 0 ((σ 11 0) + (if (sO_pagesToPrint σ (((σ 42 ((p0 - 1).toNatClampNeg)) - 1).toNatClampNeg)) < p1 then (sO_pagesToPrint σ (((σ 42 ((p0 - 1).toNatClampNeg)) - 1).toNatClampNeg)) else p1))) 42 ((p0 - 1).toNatClampNeg) 0) (((σ 42 ((p0 - 1).toNatClampNeg)) - 1).toNatClampNeg)) (((σ 42 ((p0 - 1).toNatClampNeg)) - 1).toNatClampNeg) 4))
    else (if (sO_pagesToPrint σ (((σ 42 ((p0 - 1).toNatClampNeg)) - 1).toNatClampNeg)) < p1 then (sO_pagesToPrint σ (((σ 42 ((p0 - 1).toNatClampNeg)) - 1).toNatClampNeg)) else p1, upd2 (upd2 σ 31 (((σ 42 ((p0 - 1).toNatClampNeg)) - 1).toNatClampNeg) ((σ 31 (((σ 42 ((p0 - 1).toNatClampNeg)) - 1).toNatClampNeg)) + (if (sO_pagesToPrint σ (((σ 42 ((p0 - 1).toNatClampNeg)) - 1).toNatClampNeg)) < p1 then (sO_pagesToPrint σ (((σ 42 ((p0 - 1).toNatClampNeg)) - 1).toNatClampNeg)) else p1))) 11 0 ((σ 11 0) + (if (sO_pagesToPrint σ (((σ 42 ((p0 - 1).toNatClampNeg)) - 1).toNatClampNeg)) < p1 then (sO_pagesToPrint σ (((σ 42 ((p0 - 1).toNatClampNeg)) - 1).toNatClampNeg)) else p1))))
  else ((-1), σ)
def sC_cut (σ : T2) (p0 : Int32) : Int32 × T2 :=
  if (sC_isWithin p0 1 (σ 5 0)) = 0 then ((-1), σ)
  else if (σ 42 ((p0 - 1).toNatClampNeg)) = 0 then ((-2), σ)
  else if (σ 32 (((σ 42 ((p0 - 1).toNatClampNeg)) - 1).toNatClampNeg)) = 0 then (sO_lastCheckpoint σ (((σ 42 ((p0 - 1).toNatClampNeg)) - 1).toNatClampNeg), upd2 (upd2 σ 12 0 ((σ 12 0) + ((σ 31 (((σ 42 ((p0 - 1).toNatClampNeg)) - 1).toNatClampNeg)) - (sO_lastCheckpoint σ (((σ 42 ((p0 - 1).toNatClampNeg)) - 1).toNatClampNeg))))) 31 (((σ 42 ((p0 - 1).toNatClampNeg)) - 1).toNatClampNeg) (sO_lastCheckpoint σ (((σ 42 ((p0 - 1).toNatClampNeg)) - 1).toNatClampNeg)))
  else (sO_lastCheckpoint σ (((σ 42 ((p0 - 1).toNatClampNeg)) - 1).toNatClampNeg), (sC_letGo (upd2 σ 42 ((p0 - 1).toNatClampNeg) 0) (((σ 42 ((p0 - 1).toNatClampNeg)) - 1).toNatClampNeg) 5))
def sC_purge (σ : T2) (p0 : Int32) : Int32 × T2 :=
  if (sC_isWithin p0 1 (σ 3 0)) = 0 then ((-1), σ)
  else if (sO_isGone σ ((p0 - 1).toNatClampNeg)) = 0 then (if (σ 26 ((p0 - 1).toNatClampNeg)) = 3 then (0, upd2 σ 32 ((p0 - 1).toNatClampNeg) 1)
    else (1, (sC_letGo σ ((p0 - 1).toNatClampNeg) 5)))
  else ((-2), σ)
def sC_hold (σ : T2) (p0 : Int32) (p1 : Int32) : Int32 × T2 :=
  if (sC_isWithin p0 1 (σ 3 0)) = 0 then ((-1), σ)
  else if (sO_isOpenOrReleased σ ((p0 - 1).toNatClampNeg)) = 0 then ((-2), σ)
  else if (σ 27 ((p0 - 1).toNatClampNeg)) = 0 then (0, upd2 σ 27 ((p0 - 1).toNatClampNeg) p1)
  else (1, upd2 σ 27 ((p0 - 1).toNatClampNeg) p1)
def sC_route (σ : T2) (p0 : Int32) (p1 : Int32) : Int32 × T2 :=
  if (sC_isWithin p0 1 (σ 3 0)) = 0 then ((-1), σ)
  else if (sC_isWithin p1 0 63) = 0 then ((-1), σ)
  else if (sO_isOpenOrReleased σ ((p0 - 1).toNatClampNeg)) = 0 then ((-2), σ)
  else (((σ 25 ((p0 - 1).toNatClampNeg)) * 8) + (σ 24 ((p0 - 1).toNatClampNeg)), upd2 (upd2 σ 25 ((p0 - 1).toNatClampNeg) (p1 / 8)) 24 ((p0 - 1).toNatClampNeg) (p1 - p1 / 8 * 8))
def sC_search_s (σ : T2) (p0 : Int32) (i : Nat) (a : Int32) : Int32 :=
  if (σ 8 ((nI i).toNatClampNeg)) = p0 then (if (sC_isThere σ (σ 9 ((nI i).toNatClampNeg))) = 0 then a
    else a + 1)
  else a
def sC_search_F (σ : T2) (p0 : Int32) : Nat → Int32
  | 0 => 0
  | i + 1 => sC_search_s σ p0 i (sC_search_F σ p0 i)
def sC_search_x (σ : T2) (p0 : Int32) (a : Int32) : Int32 :=
  a
def sC_search (σ : T2) (p0 : Int32) : Int32 :=
  if (sC_isWithin p0 0 255) = 0 then (-1)
  else sC_search_x σ p0 (sC_search_F σ p0 ((σ 10 0).toNatClampNeg))
def sC_order (σ : T2) (p0 : Int32) : Int32 :=
  if (sC_isWithin p0 0 ((σ 7 0) - 1)) = 0 then 0
  else σ 6 p0.toNatClampNeg
def sC_state (σ : T2) (p0 : Int32) (p1 : Int32) : Int32 :=
  if (sC_isWithin p0 1 (σ 3 0)) = 0 then (-1)
  else if p1 = 0 then (if (σ 27 ((p0 - 1).toNatClampNeg)) = 0 then σ 26 ((p0 - 1).toNatClampNeg)
    else (σ 26 ((p0 - 1).toNatClampNeg)) + 6)
  else if p1 = 1 then σ 28 ((p0 - 1).toNatClampNeg)
  else if p1 = 2 then sO_pageCount σ ((p0 - 1).toNatClampNeg)
  else if p1 = 3 then σ 31 ((p0 - 1).toNatClampNeg)
  else if p1 = 4 then σ 21 ((p0 - 1).toNatClampNeg)
  else if p1 = 5 then sO_copiesLeft σ ((p0 - 1).toNatClampNeg)
  else (-1)
def sC_count (σ : T2) (p0 : Int32) : Int32 :=
  if p0 = 0 then σ 1 0
  else if p0 = 1 then sC_outputsThere σ
  else if p0 = 2 then σ 5 0
  else if p0 = 3 then σ 11 0
  else if p0 = 4 then σ 12 0
  else (-1)
def sC_new (σ : T2) (n : Nat) (p0 p1 p2 : Int32) : T2 := upd2 (upd2 (upd2 (upd2 (upd2 (upd2 (upd2 (upd2 (upd2 (upd2 (upd2 (upd2 (upd2 (upd2 σ 20 n (σ 3 0 + 1)) 21 n p0) 22 n p1) 23 n p2) 24 n 0) 25 n 0) 26 n 1) 27 n 0) 28 n 0) 29 n 0) 30 n 0) 31 n 0) 32 n 0) 3 0 (σ 3 0 + 1)
def sC_output (nO : Nat) (σ : T2) (p0 : Int32) (p1 : Int32) (p2 : Int32) : Int32 × Nat × T2 :=
  if (sC_isWithin p0 1 9999) = 0 then ((-1), nO, σ)
  else if (sC_isWithin p1 0 7) = 0 then ((-1), nO, σ)
  else if (sC_isWithin p2 1 9) = 0 then ((-1), nO, σ)
  else if (σ 0 0) < (σ 1 0) then ((σ 3 0) + 1, nO + 1, sC_new σ nO p0 p1 p2)
  else if (sC_hasOutputThere σ p0) = 0 then (0, nO, σ)
  else ((σ 3 0) + 1, nO + 1, sC_new σ nO p0 p1 p2)
def sC_segment (nO : Nat) (σ : T2) (p0 : Int32) : Int32 × Nat × T2 :=
  if (sC_isWithin p0 1 (σ 3 0)) = 0 then ((-1), nO, σ)
  else if (σ 26 ((p0 - 1).toNatClampNeg)) = 1 then (if (σ 28 ((p0 - 1).toNatClampNeg)) = 0 then ((-2), nO, σ)
    else ((σ 3 0) + 1, nO + 1, upd2 (sO_takeSettingsOf (sC_new σ nO (σ 21 ((p0 - 1).toNatClampNeg)) (σ 22 ((p0 - 1).toNatClampNeg)) (σ 23 ((p0 - 1).toNatClampNeg))) nO ((p0 - 1).toNatClampNeg)) 26 ((p0 - 1).toNatClampNeg) 2))
  else ((-2), nO, σ)
def sC_writer (nW : Nat) (σ : T2) (p0 : Int32) : Int32 × Nat × T2 :=
  if 0 ≤ p0 then (if 8 < (p0 - p0 / 16 * 16) then ((-1), nW, σ)
    else if ((p0 / 16) - 1) < 8 then (if (σ 5 0) < 9 then ((σ 5 0) + 1, nW + 1, upd2 (upd2 (upd2 (upd2 σ 40 nW (p0 - p0 / 16 * 16)) 41 nW ((p0 / 16) - 1)) 42 nW 0) 5 0 ((σ 5 0) + 1))
      else (0, nW, σ))
    else ((-1), nW, σ))
  else ((-1), nW, σ)
def c0 (r : Int32) : T2 := upd2 (upd2 (fun _ _ => 0) 1 0 r) 0 0 (r / 8)
def cRoom (p0 : Int32) : Int32 := (if (0 : Int32) < (if (65536 : Int32) < p0 then 65536 else p0) then (if (65536 : Int32) < p0 then 65536 else p0) else 0)
def m0 (r : Int32) : T2 := upd2 (fun _ _ => 0) 0 0 r
def mRoom (p0 : Int32) : Int32 := if p0 < 0 then 0 else if 65536 < p0 then 65536 else p0
