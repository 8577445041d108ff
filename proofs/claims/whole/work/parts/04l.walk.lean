theorem uX10_buys_10 : ∀ w ∈ u_ws RX10 TX10 15, w ∈ wsX10_buys := by decide +kernel
def f_X10_buys (L : hL) (X : hX) (this : Nat) (a1 : Int32) (a2 : Int32) (a3 : Int32) : Option (Int32 × hX) :=
  (f_X10_isCustomer L X this a1).bind fun r1 =>
  if tk L this 10 then
  if r1 = 0 then
    some ((-100001), X)
  else
    (f_X10_isPrize L X this a2).bind fun r5 =>
    if r5 = 0 then
      some ((-100001), X)
    else
      (f_X10_in L X a3 1 99).bind fun r8 =>
      if r8 = 0 then
        some ((-100001), X)
      else
        (f_X10_of L X this a1 0).bind fun r11 =>
        (f_X10_priced L X this a2 0).bind fun r13 =>
        if (a3 * r13) ≤ r11 then
          (f_X10_priced L X this a2 2).bind fun r16 =>
          if a3 ≤ r16 then
            (X.2 this 0).bind fun q19 =>
            if tk L q19 12 then
            if hin (16 + (6 * a1)) (L.2.2 q19) then
            (f_X10_priced L X this a2 0).bind fun r23 =>
            if hin ((52 + (7 * a2)) + 5) (L.2.2 q19) then
            if hin ((52 + (7 * a2)) + 1) (L.2.2 q19) then
            if hin ((52 + (7 * a2)) + 3) (L.2.2 q19) then
            if ¬ ((smi X q19 (Int32.toNatClampNeg (16 + (6 * a1))) ((X.1 q19 (Int32.toNatClampNeg (16 + (6 * a1)))) - (a3 * r23))).1 q19 (Int32.toNatClampNeg ((52 + (7 * a2)) + 3))) = 0 then
            if hin ((52 + (7 * a2)) + 2) (L.2.2 q19) then
            if hin ((52 + (7 * a2)) + 4) (L.2.2 q19) then
            if ¬ ((smi (smi X q19 (Int32.toNatClampNeg (16 + (6 * a1))) ((X.1 q19 (Int32.toNatClampNeg (16 + (6 * a1)))) - (a3 * r23))) q19 (Int32.toNatClampNeg ((52 + (7 * a2)) + 5)) ((((smi X q19 (Int32.toNatClampNeg (16 + (6 * a1))) ((X.1 q19 (Int32.toNatClampNeg (16 + (6 * a1)))) - (a3 * r23))).1 q19 (Int32.toNatClampNeg ((52 + (7 * a2)) + 5))) + (a3 * ((smi X q19 (Int32.toNatClampNeg (16 + (6 * a1))) ((X.1 q19 (Int32.toNatClampNeg (16 + (6 * a1)))) - (a3 * r23))).1 q19 (Int32.toNatClampNeg ((52 + (7 * a2)) + 1))))) - (((smi X q19 (Int32.toNatClampNeg (16 + (6 * a1))) ((X.1 q19 (Int32.toNatClampNeg (16 + (6 * a1)))) - (a3 * r23))).1 q19 (Int32.toNatClampNeg ((52 + (7 * a2)) + 5))) + (a3 * ((smi X q19 (Int32.toNatClampNeg (16 + (6 * a1))) ((X.1 q19 (Int32.toNatClampNeg (16 + (6 * a1)))) - (a3 * r23))).1 q19 (Int32.toNatClampNeg ((52 + (7 * a2)) + 1))))) / ((smi X q19 (Int32.toNatClampNeg (16 + (6 * a1))) ((X.1 q19 (Int32.toNatClampNeg (16 + (6 * a1)))) - (a3 * r23))).1 q19 (Int32.toNatClampNeg ((52 + (7 * a2)) + 3))) * ((smi X q19 (Int32.toNatClampNeg (16 + (6 * a1))) ((X.1 q19 (Int32.toNatClampNeg (16 + (6 * a1)))) - (a3 * r23))).1 q19 (Int32.toNatClampNeg ((52 + (7 * a2)) + 3))))).1 q19 (Int32.toNatClampNeg ((52 + (7 * a2)) + 1))) = 0 then
            (f_X10_stocked L (smi (smi X q19 (Int32.toNatClampNeg (16 + (6 * a1))) ((X.1 q19 (Int32.toNatClampNeg (16 + (6 * a1)))) - (a3 * r23))) q19 (Int32.toNatClampNeg ((52 + (7 * a2)) + 5)) ((((smi X q19 (Int32.toNatClampNeg (16 + (6 * a1))) ((X.1 q19 (Int32.toNatClampNeg (16 + (6 * a1)))) - (a3 * r23))).1 q19 (Int32.toNatClampNeg ((52 + (7 * a2)) + 5))) + (a3 * ((smi X q19 (Int32.toNatClampNeg (16 + (6 * a1))) ((X.1 q19 (Int32.toNatClampNeg (16 + (6 * a1)))) - (a3 * r23))).1 q19 (Int32.toNatClampNeg ((52 + (7 * a2)) + 1))))) - (((smi X q19 (Int32.toNatClampNeg (16 + (6 * a1))) ((X.1 q19 (Int32.toNatClampNeg (16 + (6 * a1)))) - (a3 * r23))).1 q19 (Int32.toNatClampNeg ((52 + (7 * a2)) + 5))) + (a3 * ((smi X q19 (Int32.toNatClampNeg (16 + (6 * a1))) ((X.1 q19 (Int32.toNatClampNeg (16 + (6 * a1)))) - (a3 * r23))).1 q19 (Int32.toNatClampNeg ((52 + (7 * a2)) + 1))))) / ((smi X q19 (Int32.toNatClampNeg (16 + (6 * a1))) ((X.1 q19 (Int32.toNatClampNeg (16 + (6 * a1)))) - (a3 * r23))).1 q19 (Int32.toNatClampNeg ((52 + (7 * a2)) + 3))) * ((smi X q19 (Int32.toNatClampNeg (16 + (6 * a1))) ((X.1 q19 (Int32.toNatClampNeg (16 + (6 * a1)))) - (a3 * r23))).1 q19 (Int32.toNatClampNeg ((52 + (7 * a2)) + 3))))) (((smi (smi X q19 (Int32.toNatClampNeg (16 + (6 * a1))) ((X.1 q19 (Int32.toNatClampNeg (16 + (6 * a1)))) - (a3 * r23))) q19 (Int32.toNatClampNeg ((52 + (7 * a2)) + 5)) ((((smi X q19 (Int32.toNatClampNeg (16 + (6 * a1))) ((X.1 q19 (Int32.toNatClampNeg (16 + (6 * a1)))) - (a3 * r23))).1 q19 (Int32.toNatClampNeg ((52 + (7 * a2)) + 5))) + (a3 * ((smi X q19 (Int32.toNatClampNeg (16 + (6 * a1))) ((X.1 q19 (Int32.toNatClampNeg (16 + (6 * a1)))) - (a3 * r23))).1 q19 (Int32.toNatClampNeg ((52 + (7 * a2)) + 1))))) - (((smi X q19 (Int32.toNatClampNeg (16 + (6 * a1))) ((X.1 q19 (Int32.toNatClampNeg (16 + (6 * a1)))) - (a3 * r23))).1 q19 (Int32.toNatClampNeg ((52 + (7 * a2)) + 5))) + (a3 * ((smi X q19 (Int32.toNatClampNeg (16 + (6 * a1))) ((X.1 q19 (Int32.toNatClampNeg (16 + (6 * a1)))) - (a3 * r23))).1 q19 (Int32.toNatClampNeg ((52 + (7 * a2)) + 1))))) / ((smi X q19 (Int32.toNatClampNeg (16 + (6 * a1))) ((X.1 q19 (Int32.toNatClampNeg (16 + (6 * a1)))) - (a3 * r23))).1 q19 (Int32.toNatClampNeg ((52 + (7 * a2)) + 3))) * ((smi X q19 (Int32.toNatClampNeg (16 + (6 * a1))) ((X.1 q19 (Int32.toNatClampNeg (16 + (6 * a1)))) - (a3 * r23))).1 q19 (Int32.toNatClampNeg ((52 + (7 * a2)) + 3))))).1 q19 (Int32.toNatClampNeg ((52 + (7 * a2)) + 2))) - a3) ((((smi X q19 (Int32.toNatClampNeg (16 + (6 * a1))) ((X.1 q19 (Int32.toNatClampNeg (16 + (6 * a1)))) - (a3 * r23))).1 q19 (Int32.toNatClampNeg ((52 + (7 * a2)) + 5))) + (a3 * ((smi X q19 (Int32.toNatClampNeg (16 + (6 * a1))) ((X.1 q19 (Int32.toNatClampNeg (16 + (6 * a1)))) - (a3 * r23))).1 q19 (Int32.toNatClampNeg ((52 + (7 * a2)) + 1))))) / ((smi X q19 (Int32.toNatClampNeg (16 + (6 * a1))) ((X.1 q19 (Int32.toNatClampNeg (16 + (6 * a1)))) - (a3 * r23))).1 q19 (Int32.toNatClampNeg ((52 + (7 * a2)) + 3)))) (((smi (smi X q19 (Int32.toNatClampNeg (16 + (6 * a1))) ((X.1 q19 (Int32.toNatClampNeg (16 + (6 * a1)))) - (a3 * r23))) q19 (Int32.toNatClampNeg ((52 + (7 * a2)) + 5)) ((((smi X q19 (Int32.toNatClampNeg (16 + (6 * a1))) ((X.1 q19 (Int32.toNatClampNeg (16 + (6 * a1)))) - (a3 * r23))).1 q19 (Int32.toNatClampNeg ((52 + (7 * a2)) + 5))) + (a3 * ((smi X q19 (Int32.toNatClampNeg (16 + (6 * a1))) ((X.1 q19 (Int32.toNatClampNeg (16 + (6 * a1)))) - (a3 * r23))).1 q19 (Int32.toNatClampNeg ((52 + (7 * a2)) + 1))))) - (((smi X q19 (Int32.toNatClampNeg (16 + (6 * a1))) ((X.1 q19 (Int32.toNatClampNeg (16 + (6 * a1)))) - (a3 * r23))).1 q19 (Int32.toNatClampNeg ((52 + (7 * a2)) + 5))) + (a3 * ((smi X q19 (Int32.toNatClampNeg (16 + (6 * a1))) ((X.1 q19 (Int32.toNatClampNeg (16 + (6 * a1)))) - (a3 * r23))).1 q19 (Int32.toNatClampNeg ((52 + (7 * a2)) + 1))))) / ((smi X q19 (Int32.toNatClampNeg (16 + (6 * a1))) ((X.1 q19 (Int32.toNatClampNeg (16 + (6 * a1)))) - (a3 * r23))).1 q19 (Int32.toNatClampNeg ((52 + (7 * a2)) + 3))) * ((smi X q19 (Int32.toNatClampNeg (16 + (6 * a1))) ((X.1 q19 (Int32.toNatClampNeg (16 + (6 * a1)))) - (a3 * r23))).1 q19 (Int32.toNatClampNeg ((52 + (7 * a2)) + 3))))).1 q19 (Int32.toNatClampNeg ((52 + (7 * a2)) + 4))) / ((smi (smi X q19 (Int32.toNatClampNeg (16 + (6 * a1))) ((X.1 q19 (Int32.toNatClampNeg (16 + (6 * a1)))) - (a3 * r23))) q19 (Int32.toNatClampNeg ((52 + (7 * a2)) + 5)) ((((smi X q19 (Int32.toNatClampNeg (16 + (6 * a1))) ((X.1 q19 (Int32.toNatClampNeg (16 + (6 * a1)))) - (a3 * r23))).1 q19 (Int32.toNatClampNeg ((52 + (7 * a2)) + 5))) + (a3 * ((smi X q19 (Int32.toNatClampNeg (16 + (6 * a1))) ((X.1 q19 (Int32.toNatClampNeg (16 + (6 * a1)))) - (a3 * r23))).1 q19 (Int32.toNatClampNeg ((52 + (7 * a2)) + 1))))) - (((smi X q19 (Int32.toNatClampNeg (16 + (6 * a1))) ((X.1 q19 (Int32.toNatClampNeg (16 + (6 * a1)))) - (a3 * r23))).1 q19 (Int32.toNatClampNeg ((52 + (7 * a2)) + 5))) + (a3 * ((smi X q19 (Int32.toNatClampNeg (16 + (6 * a1))) ((X.1 q19 (Int32.toNatClampNeg (16 + (6 * a1)))) - (a3 * r23))).1 q19 (Int32.toNatClampNeg ((52 + (7 * a2)) + 1))))) / ((smi X q19 (Int32.toNatClampNeg (16 + (6 * a1))) ((X.1 q19 (Int32.toNatClampNeg (16 + (6 * a1)))) - (a3 * r23))).1 q19 (Int32.toNatClampNeg ((52 + (7 * a2)) + 3))) * ((smi X q19 (Int32.toNatClampNeg (16 + (6 * a1))) ((X.1 q19 (Int32.toNatClampNeg (16 + (6 * a1)))) - (a3 * r23))).1 q19 (Int32.toNatClampNeg ((52 + (7 * a2)) + 3))))).1 q19 (Int32.toNatClampNeg ((52 + (7 * a2)) + 1))))).bind fun r32 =>
            if hin ((52 + (7 * a2)) + 6) (L.2.2 q19) then
            (f_X10_of L (smi (smi (smi (smi X q19 (Int32.toNatClampNeg (16 + (6 * a1))) ((X.1 q19 (Int32.toNatClampNeg (16 + (6 * a1)))) - (a3 * r23))) q19 (Int32.toNatClampNeg ((52 + (7 * a2)) + 5)) ((((smi X q19 (Int32.toNatClampNeg (16 + (6 * a1))) ((X.1 q19 (Int32.toNatClampNeg (16 + (6 * a1)))) - (a3 * r23))).1 q19 (Int32.toNatClampNeg ((52 + (7 * a2)) + 5))) + (a3 * ((smi X q19 (Int32.toNatClampNeg (16 + (6 * a1))) ((X.1 q19 (Int32.toNatClampNeg (16 + (6 * a1)))) - (a3 * r23))).1 q19 (Int32.toNatClampNeg ((52 + (7 * a2)) + 1))))) - (((smi X q19 (Int32.toNatClampNeg (16 + (6 * a1))) ((X.1 q19 (Int32.toNatClampNeg (16 + (6 * a1)))) - (a3 * r23))).1 q19 (Int32.toNatClampNeg ((52 + (7 * a2)) + 5))) + (a3 * ((smi X q19 (Int32.toNatClampNeg (16 + (6 * a1))) ((X.1 q19 (Int32.toNatClampNeg (16 + (6 * a1)))) - (a3 * r23))).1 q19 (Int32.toNatClampNeg ((52 + (7 * a2)) + 1))))) / ((smi X q19 (Int32.toNatClampNeg (16 + (6 * a1))) ((X.1 q19 (Int32.toNatClampNeg (16 + (6 * a1)))) - (a3 * r23))).1 q19 (Int32.toNatClampNeg ((52 + (7 * a2)) + 3))) * ((smi X q19 (Int32.toNatClampNeg (16 + (6 * a1))) ((X.1 q19 (Int32.toNatClampNeg (16 + (6 * a1)))) - (a3 * r23))).1 q19 (Int32.toNatClampNeg ((52 + (7 * a2)) + 3))))) q19 (Int32.toNatClampNeg ((52 + (7 * a2)) + 2)) r32) q19 (Int32.toNatClampNeg ((52 + (7 * a2)) + 6)) (((smi (smi (smi X q19 (Int32.toNatClampNeg (16 + (6 * a1))) ((X.1 q19 (Int32.toNatClampNeg (16 + (6 * a1)))) - (a3 * r23))) q19 (Int32.toNatClampNeg ((52 + (7 * a2)) + 5)) ((((smi X q19 (Int32.toNatClampNeg (16 + (6 * a1))) ((X.1 q19 (Int32.toNatClampNeg (16 + (6 * a1)))) - (a3 * r23))).1 q19 (Int32.toNatClampNeg ((52 + (7 * a2)) + 5))) + (a3 * ((smi X q19 (Int32.toNatClampNeg (16 + (6 * a1))) ((X.1 q19 (Int32.toNatClampNeg (16 + (6 * a1)))) - (a3 * r23))).1 q19 (Int32.toNatClampNeg ((52 + (7 * a2)) + 1))))) - (((smi X q19 (Int32.toNatClampNeg (16 + (6 * a1))) ((X.1 q19 (Int32.toNatClampNeg (16 + (6 * a1)))) - (a3 * r23))).1 q19 (Int32.toNatClampNeg ((52 + (7 * a2)) + 5))) + (a3 * ((smi X q19 (Int32.toNatClampNeg (16 + (6 * a1))) ((X.1 q19 (Int32.toNatClampNeg (16 + (6 * a1)))) - (a3 * r23))).1 q19 (Int32.toNatClampNeg ((52 + (7 * a2)) + 1))))) / ((smi X q19 (Int32.toNatClampNeg (16 + (6 * a1))) ((X.1 q19 (Int32.toNatClampNeg (16 + (6 * a1)))) - (a3 * r23))).1 q19 (Int32.toNatClampNeg ((52 + (7 * a2)) + 3))) * ((smi X q19 (Int32.toNatClampNeg (16 + (6 * a1))) ((X.1 q19 (Int32.toNatClampNeg (16 + (6 * a1)))) - (a3 * r23))).1 q19 (Int32.toNatClampNeg ((52 + (7 * a2)) + 3))))) q19 (Int32.toNatClampNeg ((52 + (7 * a2)) + 2)) r32).1 q19 (Int32.toNatClampNeg ((52 + (7 * a2)) + 6))) + ((((smi X q19 (Int32.toNatClampNeg (16 + (6 * a1))) ((X.1 q19 (Int32.toNatClampNeg (16 + (6 * a1)))) - (a3 * r23))).1 q19 (Int32.toNatClampNeg ((52 + (7 * a2)) + 5))) + (a3 * ((smi X q19 (Int32.toNatClampNeg (16 + (6 * a1))) ((X.1 q19 (Int32.toNatClampNeg (16 + (6 * a1)))) - (a3 * r23))).1 q19 (Int32.toNatClampNeg ((52 + (7 * a2)) + 1))))) / ((smi X q19 (Int32.toNatClampNeg (16 + (6 * a1))) ((X.1 q19 (Int32.toNatClampNeg (16 + (6 * a1)))) - (a3 * r23))).1 q19 (Int32.toNatClampNeg ((52 + (7 * a2)) + 3)))))) this a1 0).bind fun r35 =>
            some (r35, smi (smi (smi (smi X q19 (Int32.toNatClampNeg (16 + (6 * a1))) ((X.1 q19 (Int32.toNatClampNeg (16 + (6 * a1)))) - (a3 * r23))) q19 (Int32.toNatClampNeg ((52 + (7 * a2)) + 5)) ((((smi X q19 (Int32.toNatClampNeg (16 + (6 * a1))) ((X.1 q19 (Int32.toNatClampNeg (16 + (6 * a1)))) - (a3 * r23))).1 q19 (Int32.toNatClampNeg ((52 + (7 * a2)) + 5))) + (a3 * ((smi X q19 (Int32.toNatClampNeg (16 + (6 * a1))) ((X.1 q19 (Int32.toNatClampNeg (16 + (6 * a1)))) - (a3 * r23))).1 q19 (Int32.toNatClampNeg ((52 + (7 * a2)) + 1))))) - (((smi X q19 (Int32.toNatClampNeg (16 + (6 * a1))) ((X.1 q19 (Int32.toNatClampNeg (16 + (6 * a1)))) - (a3 * r23))).1 q19 (Int32.toNatClampNeg ((52 + (7 * a2)) + 5))) + (a3 * ((smi X q19 (Int32.toNatClampNeg (16 + (6 * a1))) ((X.1 q19 (Int32.toNatClampNeg (16 + (6 * a1)))) - (a3 * r23))).1 q19 (Int32.toNatClampNeg ((52 + (7 * a2)) + 1))))) / ((smi X q19 (Int32.toNatClampNeg (16 + (6 * a1))) ((X.1 q19 (Int32.toNatClampNeg (16 + (6 * a1)))) - (a3 * r23))).1 q19 (Int32.toNatClampNeg ((52 + (7 * a2)) + 3))) * ((smi X q19 (Int32.toNatClampNeg (16 + (6 * a1))) ((X.1 q19 (Int32.toNatClampNeg (16 + (6 * a1)))) - (a3 * r23))).1 q19 (Int32.toNatClampNeg ((52 + (7 * a2)) + 3))))) q19 (Int32.toNatClampNeg ((52 + (7 * a2)) + 2)) r32) q19 (Int32.toNatClampNeg ((52 + (7 * a2)) + 6)) (((smi (smi (smi X q19 (Int32.toNatClampNeg (16 + (6 * a1))) ((X.1 q19 (Int32.toNatClampNeg (16 + (6 * a1)))) - (a3 * r23))) q19 (Int32.toNatClampNeg ((52 + (7 * a2)) + 5)) ((((smi X q19 (Int32.toNatClampNeg (16 + (6 * a1))) ((X.1 q19 (Int32.toNatClampNeg (16 + (6 * a1)))) - (a3 * r23))).1 q19 (Int32.toNatClampNeg ((52 + (7 * a2)) + 5))) + (a3 * ((smi X q19 (Int32.toNatClampNeg (16 + (6 * a1))) ((X.1 q19 (Int32.toNatClampNeg (16 + (6 * a1)))) - (a3 * r23))).1 q19 (Int32.toNatClampNeg ((52 + (7 * a2)) + 1))))) - (((smi X q19 (Int32.toNatClampNeg (16 + (6 * a1))) ((X.1 q19 (Int32.toNatClampNeg (16 + (6 * a1)))) - (a3 * r23))).1 q19 (Int32.toNatClampNeg ((52 + (7 * a2)) + 5))) + (a3 * ((smi X q19 (Int32.toNatClampNeg (16 + (6 * a1))) ((X.1 q19 (Int32.toNatClampNeg (16 + (6 * a1)))) - (a3 * r23))).1 q19 (Int32.toNatClampNeg ((52 + (7 * a2)) + 1))))) / ((smi X q19 (Int32.toNatClampNeg (16 + (6 * a1))) ((X.1 q19 (Int32.toNatClampNeg (16 + (6 * a1)))) - (a3 * r23))).1 q19 (Int32.toNatClampNeg ((52 + (7 * a2)) + 3))) * ((smi X q19 (Int32.toNatClampNeg (16 + (6 * a1))) ((X.1 q19 (Int32.toNatClampNeg (16 + (6 * a1)))) - (a3 * r23))).1 q19 (Int32.toNatClampNeg ((52 + (7 * a2)) + 3))))) q19 (Int32.toNatClampNeg ((52 + (7 * a2)) + 2)) r32).1 q19 (Int32.toNatClampNeg ((52 + (7 * a2)) + 6))) + ((((smi X q19 (Int32.toNatClampNeg (16 + (6 * a1))) ((X.1 q19 (Int32.toNatClampNeg (16 + (6 * a1)))) - (a3 * r23))).1 q19 (Int32.toNatClampNeg ((52 + (7 * a2)) + 5))) + (a3 * ((smi X q19 (Int32.toNatClampNeg (16 + (6 * a1))) ((X.1 q19 (Int32.toNatClampNeg (16 + (6 * a1)))) - (a3 * r23))).1 q19 (Int32.toNatClampNeg ((52 + (7 * a2)) + 1))))) / ((smi X q19 (Int32.toNatClampNeg (16 + (6 * a1))) ((X.1 q19 (Int32.toNatClampNeg (16 + (6 * a1)))) - (a3 * r23))).1 q19 (Int32.toNatClampNeg ((52 + (7 * a2)) + 3))))))
            else none
            else none
            else none
            else none
            else none
            else none
            else none
            else none
            else none
            else none
          else
            some ((-100003), X)
        else
          some ((-100002), X)
  else none
set_option maxRecDepth 100000 in
set_option maxHeartbeats 4000000 in
theorem c_X10_buys {l : Launch} {dC : Nat → ClassId} {dI : Nat → Nat → Nat} {cy : Nat → ClassId} {ad : Nat → Nat} {L : hL} {X : hX} {this : Nat} {a1 : Int32} {a2 : Int32} {a3 : Int32} {r : Int32} {X' : hX} (h : f_X10_buys L X this a1 a2 a3 = some (r, X')) : hMet l dC dI cy ad L yX10_buys wsX10_buys ({ frames := 2, cells := 0, slots := 0, locals := 43 } : Room) [.ref (ad this), .int a1, .int a2, .int a3] X (some (.int r)) X' := by
  unfold f_X10_buys at h
  refine hx_enter RX10 (plainFor_of_name (by decide)) rfl rfl (Nat.le_of_ble_eq_true rfl) (fun p e s m args below meth c C hr hnm ls hl => ?_)
  have hl : lv_has ls 7 [(0, .ref (ad this)), (1, .int a1), (2, .int a2), (3, .int a3)] := hl
  refine hx_aload_n C dX10_buys_0 rfl (lv_at hl 0 rfl) ?_
  refine hx_iload_n C dX10_buys_1 rfl (lv_at hl 1 rfl) ?_
  obtain ⟨r1, e2, h⟩ := hx_bind h
  obtain ⟨g3, h⟩ := hx_gd h
  refine hx_callV (As := [.int a1]) (rest := []) (n := 1) (Cn := RX10) C (c_X10_isCustomer e2) gX10_buys_X10_isCustomer g3 (by decide) rfl (by decide +kernel) ⟨Nat.le_of_ble_eq_true rfl, Nat.le_of_ble_eq_true rfl⟩ rfl rfl rfl ⟨Nat.zero_le _, Nat.zero_le _⟩ hl.1 rfl rfl (Nat.le_of_ble_eq_true rfl) dX10_buys_2 ?_
  refine hx_if_eq (tgt := 26) C dX10_buys_5 (by decide) (fun c4 => ?_) (fun c4 => ?_)
  · have h := hx_pos c4 h
    refine hx_ldc (v := (-100001)) C (by decide +kernel) dX10_buys_26 ?_
    obtain ⟨rfl, rfl⟩ := hx_some2 h
    exact hx_iret C hr dX10_buys_28
  · have h := hx_neg c4 h
    refine hx_aload_n C dX10_buys_8 rfl (lv_at hl 0 rfl) ?_
    refine hx_iload_n C dX10_buys_9 rfl (lv_at hl 2 rfl) ?_
    obtain ⟨r5, e6, h⟩ := hx_bind h
    refine hx_callV (As := [.int a2]) (rest := []) (n := 1) (Cn := RX10) C (c_X10_isPrize e6) gX10_buys_X10_isPrize g3 (by decide) rfl (by decide +kernel) ⟨Nat.le_of_ble_eq_true rfl, Nat.le_of_ble_eq_true rfl⟩ rfl rfl rfl ⟨Nat.zero_le _, Nat.zero_le _⟩ hl.1 rfl rfl (Nat.le_of_ble_eq_true rfl) dX10_buys_10 ?_
    refine hx_if_eq (tgt := 26) C dX10_buys_13 (by decide) (fun c7 => ?_) (fun c7 => ?_)
    · have h := hx_pos c7 h
      refine hx_ldc (v := (-100001)) C (by decide +kernel) dX10_buys_26 ?_
      obtain ⟨rfl, rfl⟩ := hx_some2 h
      exact hx_iret C hr dX10_buys_28
    · have h := hx_neg c7 h
      refine hx_iload_n C dX10_buys_16 rfl (lv_at hl 3 rfl) ?_
      refine hx_iconst (v := 1) C dX10_buys_17 (by decide) ?_
      refine hx_bipush (v := 99) C dX10_buys_18 (by decide) ?_
      obtain ⟨r8, e9, h⟩ := hx_bind h
      refine hx_callS (As := [.int a3, .int 1, .int 99]) (rest := []) (n := 3) C (c_X10_in e9) gX10_buys_X10_in (by decide +kernel) ⟨Nat.le_of_ble_eq_true rfl, Nat.le_of_ble_eq_true rfl⟩ rfl rfl rfl ⟨Nat.zero_le _, Nat.zero_le _⟩ hl.1 rfl rfl (Nat.le_of_ble_eq_true rfl) dX10_buys_20 ?_
      refine hx_if_ne (tgt := 29) C dX10_buys_23 (by decide) (fun c10 => ?_) (fun c10 => ?_)
      · have h := hx_neg c10 h
        refine hx_aload_n C dX10_buys_29 rfl (lv_at hl 0 rfl) ?_
        refine hx_iload_n C dX10_buys_30 rfl (lv_at hl 1 rfl) ?_
        refine hx_iconst (v := 0) C dX10_buys_31 (by decide) ?_
        obtain ⟨r11, e12, h⟩ := hx_bind h
        refine hx_callV (As := [.int a1, .int 0]) (rest := []) (n := 2) (Cn := RX10) C (c_X10_of e12) gX10_buys_X10_of g3 (by decide) rfl (by decide +kernel) ⟨Nat.le_of_ble_eq_true rfl, Nat.le_of_ble_eq_true rfl⟩ rfl rfl rfl ⟨Nat.zero_le _, Nat.zero_le _⟩ hl.1 rfl rfl (Nat.le_of_ble_eq_true rfl) dX10_buys_32 ?_
        refine hx_iload_n C dX10_buys_35 rfl (lv_at hl 3 rfl) ?_
        refine hx_aload_n C dX10_buys_36 rfl (lv_at hl 0 rfl) ?_
        refine hx_iload_n C dX10_buys_37 rfl (lv_at hl 2 rfl) ?_
        refine hx_iconst (v := 0) C dX10_buys_38 (by decide) ?_
        obtain ⟨r13, e14, h⟩ := hx_bind h
        refine hx_callV (As := [.int a2, .int 0]) (rest := [.int a3, .int r11]) (n := 2) (Cn := RX10) C (c_X10_priced e14) gX10_buys_X10_priced g3 (by decide) rfl (by decide +kernel) ⟨Nat.le_of_ble_eq_true rfl, Nat.le_of_ble_eq_true rfl⟩ rfl rfl rfl ⟨Nat.zero_le _, Nat.zero_le _⟩ hl.1 rfl rfl (Nat.le_of_ble_eq_true rfl) dX10_buys_39 ?_
        refine hx_imul C dX10_buys_42 ?_
        refine hx_icmp_ge (tgt := 49) C dX10_buys_43 (by decide) (fun c15 => ?_) (fun c15 => ?_)
        · have h := hx_pos c15 h
          refine hx_aload_n C dX10_buys_49 rfl (lv_at hl 0 rfl) ?_
          refine hx_iload_n C dX10_buys_50 rfl (lv_at hl 2 rfl) ?_
          refine hx_iconst (v := 2) C dX10_buys_51 (by decide) ?_
          obtain ⟨r16, e17, h⟩ := hx_bind h
          refine hx_callV (As := [.int a2, .int 2]) (rest := []) (n := 2) (Cn := RX10) C (c_X10_priced e17) gX10_buys_X10_priced g3 (by decide) rfl (by decide +kernel) ⟨Nat.le_of_ble_eq_true rfl, Nat.le_of_ble_eq_true rfl⟩ rfl rfl rfl ⟨Nat.zero_le _, Nat.zero_le _⟩ hl.1 rfl rfl (Nat.le_of_ble_eq_true rfl) dX10_buys_52 ?_
          refine hx_iload_n C dX10_buys_55 rfl (lv_at hl 3 rfl) ?_
          refine hx_icmp_ge (tgt := 62) C dX10_buys_56 (by decide) (fun c18 => ?_) (fun c18 => ?_)
          · have h := hx_pos c18 h
            refine hx_aload_n C dX10_buys_62 rfl (lv_at hl 0 rfl) ?_
            obtain ⟨q19, e20, h⟩ := hx_bind h
            refine hx_getr C (ci := 10) (j := 0) g3 uX10_buys_10 (by decide) rfl (by decide) rfl (by decide +kernel) rfl dX10_buys_63 e20 ?_
            refine hx_bipush (v := 16) C dX10_buys_66 (by decide) ?_
            refine hx_bipush (v := 6) C dX10_buys_68 (by decide) ?_
            refine hx_iload_n C dX10_buys_70 rfl (lv_at hl 1 rfl) ?_
            refine hx_imul C dX10_buys_71 ?_
            refine hx_iadd C dX10_buys_72 ?_
            refine hx_dup2 C dX10_buys_73 rfl rfl ?_
            obtain ⟨g21, h⟩ := hx_gd h
            obtain ⟨g22, h⟩ := hx_gd h
            refine hx_iald (n := (Int32.toNatClampNeg (16 + (6 * a1)))) C g21 g22 rfl dX10_buys_74 ?_
            refine hx_iload_n C dX10_buys_75 rfl (lv_at hl 3 rfl) ?_
            refine hx_aload_n C dX10_buys_76 rfl (lv_at hl 0 rfl) ?_
            refine hx_iload_n C dX10_buys_77 rfl (lv_at hl 2 rfl) ?_
            refine hx_iconst (v := 0) C dX10_buys_78 (by decide) ?_
            obtain ⟨r23, e24, h⟩ := hx_bind h
            refine hx_callV (As := [.int a2, .int 0]) (rest := [.int a3, .int (X.1 q19 (Int32.toNatClampNeg (16 + (6 * a1)))), .int (16 + (6 * a1)), .ref (ad q19)]) (n := 2) (Cn := RX10) C (c_X10_priced e24) gX10_buys_X10_priced g3 (by decide) rfl (by decide +kernel) ⟨Nat.le_of_ble_eq_true rfl, Nat.le_of_ble_eq_true rfl⟩ rfl rfl rfl ⟨Nat.zero_le _, Nat.zero_le _⟩ hl.1 rfl rfl (Nat.le_of_ble_eq_true rfl) dX10_buys_79 ?_
            refine hx_imul C dX10_buys_82 ?_
            refine hx_isub C dX10_buys_83 ?_
            refine hx_iast (n := (Int32.toNatClampNeg (16 + (6 * a1)))) C g21 g22 rfl dX10_buys_84 ?_
            refine hx_bipush (v := 52) C dX10_buys_85 (by decide) ?_
            refine hx_bipush (v := 7) C dX10_buys_87 (by decide) ?_
            refine hx_iload_n C dX10_buys_89 rfl (lv_at hl 2 rfl) ?_
            refine hx_imul C dX10_buys_90 ?_
            refine hx_iadd C dX10_buys_91 ?_
            refine hx_istore (lv' := [(4, .int (52 + (7 * a2))), (0, .ref (ad this)), (1, .int a1), (2, .int a2), (3, .int a3)]) C dX10_buys_92 hl (by decide) rfl (fun ls hl => ?_)
            refine hx_aload_n C dX10_buys_94 rfl (lv_at hl 1 rfl) ?_
            refine hx_getr C (ci := 10) (j := 0) g3 uX10_buys_10 (by decide) rfl (by decide) rfl (by decide +kernel) rfl dX10_buys_95 e20 ?_
            refine hx_iload C dX10_buys_98 (lv_at hl 0 rfl) ?_
            refine hx_iconst (v := 5) C dX10_buys_100 (by decide) ?_
            refine hx_iadd C dX10_buys_101 ?_
            obtain ⟨g25, h⟩ := hx_gd h
            refine hx_iald (n := (Int32.toNatClampNeg ((52 + (7 * a2)) + 5))) C g21 g25 rfl dX10_buys_102 ?_
            refine hx_iload_n C dX10_buys_103 rfl (lv_at hl 4 rfl) ?_
            refine hx_aload_n C dX10_buys_104 rfl (lv_at hl 1 rfl) ?_
            refine hx_getr C (ci := 10) (j := 0) g3 uX10_buys_10 (by decide) rfl (by decide) rfl (by decide +kernel) rfl dX10_buys_105 e20 ?_
            refine hx_iload C dX10_buys_108 (lv_at hl 0 rfl) ?_
            refine hx_iconst (v := 1) C dX10_buys_110 (by decide) ?_
            refine hx_iadd C dX10_buys_111 ?_
            obtain ⟨g26, h⟩ := hx_gd h
            refine hx_iald (n := (Int32.toNatClampNeg ((52 + (7 * a2)) + 1))) C g21 g26 rfl dX10_buys_112 ?_
            refine hx_imul C dX10_buys_113 ?_
            refine hx_iadd C dX10_buys_114 ?_
            refine hx_istore (lv' := [(5, .int (((smi X q19 (Int32.toNatClampNeg (16 + (6 * a1))) ((X.1 q19 (Int32.toNatClampNeg (16 + (6 * a1)))) - (a3 * r23))).1 q19 (Int32.toNatClampNeg ((52 + (7 * a2)) + 5))) + (a3 * ((smi X q19 (Int32.toNatClampNeg (16 + (6 * a1))) ((X.1 q19 (Int32.toNatClampNeg (16 + (6 * a1)))) - (a3 * r23))).1 q19 (Int32.toNatClampNeg ((52 + (7 * a2)) + 1)))))), (4, .int (52 + (7 * a2))), (0, .ref (ad this)), (1, .int a1), (2, .int a2), (3, .int a3)]) C dX10_buys_115 hl (by decide) rfl (fun ls hl => ?_)
            refine hx_iload C dX10_buys_117 (lv_at hl 0 rfl) ?_
            refine hx_aload_n C dX10_buys_119 rfl (lv_at hl 2 rfl) ?_
            refine hx_getr C (ci := 10) (j := 0) g3 uX10_buys_10 (by decide) rfl (by decide) rfl (by decide +kernel) rfl dX10_buys_120 e20 ?_
            refine hx_iload C dX10_buys_123 (lv_at hl 1 rfl) ?_
            refine hx_iconst (v := 3) C dX10_buys_125 (by decide) ?_
            refine hx_iadd C dX10_buys_126 ?_
            obtain ⟨g27, h⟩ := hx_gd h
            refine hx_iald (n := (Int32.toNatClampNeg ((52 + (7 * a2)) + 3))) C g21 g27 rfl dX10_buys_127 ?_
            obtain ⟨g28, h⟩ := hx_gd h
            refine hx_idiv C dX10_buys_128 g28 ?_
            refine hx_istore (lv' := [(6, .int ((((smi X q19 (Int32.toNatClampNeg (16 + (6 * a1))) ((X.1 q19 (Int32.toNatClampNeg (16 + (6 * a1)))) - (a3 * r23))).1 q19 (Int32.toNatClampNeg ((52 + (7 * a2)) + 5))) + (a3 * ((smi X q19 (Int32.toNatClampNeg (16 + (6 * a1))) ((X.1 q19 (Int32.toNatClampNeg (16 + (6 * a1)))) - (a3 * r23))).1 q19 (Int32.toNatClampNeg ((52 + (7 * a2)) + 1))))) / ((smi X q19 (Int32.toNatClampNeg (16 + (6 * a1))) ((X.1 q19 (Int32.toNatClampNeg (16 + (6 * a1)))) - (a3 * r23))).1 q19 (Int32.toNatClampNeg ((52 + (7 * a2)) + 3))))), (5, .int (((smi X q19 (Int32.toNatClampNeg (16 + (6 * a1))) ((X.1 q19 (Int32.toNatClampNeg (16 + (6 * a1)))) - (a3 * r23))).1 q19 (Int32.toNatClampNeg ((52 + (7 * a2)) + 5))) + (a3 * ((smi X q19 (Int32.toNatClampNeg (16 + (6 * a1))) ((X.1 q19 (Int32.toNatClampNeg (16 + (6 * a1)))) - (a3 * r23))).1 q19 (Int32.toNatClampNeg ((52 + (7 * a2)) + 1)))))), (4, .int (52 + (7 * a2))), (0, .ref (ad this)), (1, .int a1), (2, .int a2), (3, .int a3)]) C dX10_buys_129 hl (by decide) rfl (fun ls hl => ?_)
            refine hx_aload_n C dX10_buys_131 rfl (lv_at hl 3 rfl) ?_
            refine hx_getr C (ci := 10) (j := 0) g3 uX10_buys_10 (by decide) rfl (by decide) rfl (by decide +kernel) rfl dX10_buys_132 e20 ?_
            refine hx_iload C dX10_buys_135 (lv_at hl 2 rfl) ?_
            refine hx_iconst (v := 5) C dX10_buys_137 (by decide) ?_
            refine hx_iadd C dX10_buys_138 ?_
            refine hx_iload C dX10_buys_139 (lv_at hl 1 rfl) ?_
            refine hx_aload_n C dX10_buys_141 rfl (lv_at hl 3 rfl) ?_
            refine hx_getr C (ci := 10) (j := 0) g3 uX10_buys_10 (by decide) rfl (by decide) rfl (by decide +kernel) rfl dX10_buys_142 e20 ?_
            refine hx_iload C dX10_buys_145 (lv_at hl 2 rfl) ?_
            refine hx_iconst (v := 3) C dX10_buys_147 (by decide) ?_
            refine hx_iadd C dX10_buys_148 ?_
            refine hx_iald (n := (Int32.toNatClampNeg ((52 + (7 * a2)) + 3))) C g21 g27 rfl dX10_buys_149 ?_
            refine hx_irem C dX10_buys_150 g28 ?_
            refine hx_iast (n := (Int32.toNatClampNeg ((52 + (7 * a2)) + 5))) C g21 g25 rfl dX10_buys_151 ?_
            refine hx_aload_n C dX10_buys_152 rfl (lv_at hl 3 rfl) ?_
            refine hx_getr C (ci := 10) (j := 0) g3 uX10_buys_10 (by decide) rfl (by decide) rfl (by decide +kernel) rfl dX10_buys_153 e20 ?_
            refine hx_iload C dX10_buys_156 (lv_at hl 2 rfl) ?_
            refine hx_iconst (v := 2) C dX10_buys_158 (by decide) ?_
            refine hx_iadd C dX10_buys_159 ?_
            refine hx_aload_n C dX10_buys_160 rfl (lv_at hl 3 rfl) ?_
            refine hx_getr C (ci := 10) (j := 0) g3 uX10_buys_10 (by decide) rfl (by decide) rfl (by decide +kernel) rfl dX10_buys_161 e20 ?_
            refine hx_iload C dX10_buys_164 (lv_at hl 2 rfl) ?_
            refine hx_iconst (v := 2) C dX10_buys_166 (by decide) ?_
            refine hx_iadd C dX10_buys_167 ?_
            obtain ⟨g29, h⟩ := hx_gd h
            refine hx_iald (n := (Int32.toNatClampNeg ((52 + (7 * a2)) + 2))) C g21 g29 rfl dX10_buys_168 ?_
            refine hx_iload_n C dX10_buys_169 rfl (lv_at hl 6 rfl) ?_
            refine hx_isub C dX10_buys_170 ?_
            refine hx_iload C dX10_buys_171 (lv_at hl 0 rfl) ?_
            refine hx_aload_n C dX10_buys_173 rfl (lv_at hl 3 rfl) ?_
            refine hx_getr C (ci := 10) (j := 0) g3 uX10_buys_10 (by decide) rfl (by decide) rfl (by decide +kernel) rfl dX10_buys_174 e20 ?_
            refine hx_iload C dX10_buys_177 (lv_at hl 2 rfl) ?_
            refine hx_iconst (v := 4) C dX10_buys_179 (by decide) ?_
            refine hx_iadd C dX10_buys_180 ?_
            obtain ⟨g30, h⟩ := hx_gd h
            refine hx_iald (n := (Int32.toNatClampNeg ((52 + (7 * a2)) + 4))) C g21 g30 rfl dX10_buys_181 ?_
            refine hx_aload_n C dX10_buys_182 rfl (lv_at hl 3 rfl) ?_
            refine hx_getr C (ci := 10) (j := 0) g3 uX10_buys_10 (by decide) rfl (by decide) rfl (by decide +kernel) rfl dX10_buys_183 e20 ?_
            refine hx_iload C dX10_buys_186 (lv_at hl 2 rfl) ?_
            refine hx_iconst (v := 1) C dX10_buys_188 (by decide) ?_
            refine hx_iadd C dX10_buys_189 ?_
            refine hx_iald (n := (Int32.toNatClampNeg ((52 + (7 * a2)) + 1))) C g21 g26 rfl dX10_buys_190 ?_
            obtain ⟨g31, h⟩ := hx_gd h
            refine hx_idiv C dX10_buys_191 g31 ?_
            obtain ⟨r32, e33, h⟩ := hx_bind h
            refine hx_callS (As := [.int (((smi (smi X q19 (Int32.toNatClampNeg (16 + (6 * a1))) ((X.1 q19 (Int32.toNatClampNeg (16 + (6 * a1)))) - (a3 * r23))) q19 (Int32.toNatClampNeg ((52 + (7 * a2)) + 5)) ((((smi X q19 (Int32.toNatClampNeg (16 + (6 * a1))) ((X.1 q19 (Int32.toNatClampNeg (16 + (6 * a1)))) - (a3 * r23))).1 q19 (Int32.toNatClampNeg ((52 + (7 * a2)) + 5))) + (a3 * ((smi X q19 (Int32.toNatClampNeg (16 + (6 * a1))) ((X.1 q19 (Int32.toNatClampNeg (16 + (6 * a1)))) - (a3 * r23))).1 q19 (Int32.toNatClampNeg ((52 + (7 * a2)) + 1))))) - (((smi X q19 (Int32.toNatClampNeg (16 + (6 * a1))) ((X.1 q19 (Int32.toNatClampNeg (16 + (6 * a1)))) - (a3 * r23))).1 q19 (Int32.toNatClampNeg ((52 + (7 * a2)) + 5))) + (a3 * ((smi X q19 (Int32.toNatClampNeg (16 + (6 * a1))) ((X.1 q19 (Int32.toNatClampNeg (16 + (6 * a1)))) - (a3 * r23))).1 q19 (Int32.toNatClampNeg ((52 + (7 * a2)) + 1))))) / ((smi X q19 (Int32.toNatClampNeg (16 + (6 * a1))) ((X.1 q19 (Int32.toNatClampNeg (16 + (6 * a1)))) - (a3 * r23))).1 q19 (Int32.toNatClampNeg ((52 + (7 * a2)) + 3))) * ((smi X q19 (Int32.toNatClampNeg (16 + (6 * a1))) ((X.1 q19 (Int32.toNatClampNeg (16 + (6 * a1)))) - (a3 * r23))).1 q19 (Int32.toNatClampNeg ((52 + (7 * a2)) + 3))))).1 q19 (Int32.toNatClampNeg ((52 + (7 * a2)) + 2))) - a3), .int ((((smi X q19 (Int32.toNatClampNeg (16 + (6 * a1))) ((X.1 q19 (Int32.toNatClampNeg (16 + (6 * a1)))) - (a3 * r23))).1 q19 (Int32.toNatClampNeg ((52 + (7 * a2)) + 5))) + (a3 * ((smi X q19 (Int32.toNatClampNeg (16 + (6 * a1))) ((X.1 q19 (Int32.toNatClampNeg (16 + (6 * a1)))) - (a3 * r23))).1 q19 (Int32.toNatClampNeg ((52 + (7 * a2)) + 1))))) / ((smi X q19 (Int32.toNatClampNeg (16 + (6 * a1))) ((X.1 q19 (Int32.toNatClampNeg (16 + (6 * a1)))) - (a3 * r23))).1 q19 (Int32.toNatClampNeg ((52 + (7 * a2)) + 3)))), .int (((smi (smi X q19 (Int32.toNatClampNeg (16 + (6 * a1))) ((X.1 q19 (Int32.toNatClampNeg (16 + (6 * a1)))) - (a3 * r23))) q19 (Int32.toNatClampNeg ((52 + (7 * a2)) + 5)) ((((smi X q19 (Int32.toNatClampNeg (16 + (6 * a1))) ((X.1 q19 (Int32.toNatClampNeg (16 + (6 * a1)))) - (a3 * r23))).1 q19 (Int32.toNatClampNeg ((52 + (7 * a2)) + 5))) + (a3 * ((smi X q19 (Int32.toNatClampNeg (16 + (6 * a1))) ((X.1 q19 (Int32.toNatClampNeg (16 + (6 * a1)))) - (a3 * r23))).1 q19 (Int32.toNatClampNeg ((52 + (7 * a2)) + 1))))) - (((smi X q19 (Int32.toNatClampNeg (16 + (6 * a1))) ((X.1 q19 (Int32.toNatClampNeg (16 + (6 * a1)))) - (a3 * r23))).1 q19 (Int32.toNatClampNeg ((52 + (7 * a2)) + 5))) + (a3 * ((smi X q19 (Int32.toNatClampNeg (16 + (6 * a1))) ((X.1 q19 (Int32.toNatClampNeg (16 + (6 * a1)))) - (a3 * r23))).1 q19 (Int32.toNatClampNeg ((52 + (7 * a2)) + 1))))) / ((smi X q19 (Int32.toNatClampNeg (16 + (6 * a1))) ((X.1 q19 (Int32.toNatClampNeg (16 + (6 * a1)))) - (a3 * r23))).1 q19 (Int32.toNatClampNeg ((52 + (7 * a2)) + 3))) * ((smi X q19 (Int32.toNatClampNeg (16 + (6 * a1))) ((X.1 q19 (Int32.toNatClampNeg (16 + (6 * a1)))) - (a3 * r23))).1 q19 (Int32.toNatClampNeg ((52 + (7 * a2)) + 3))))).1 q19 (Int32.toNatClampNeg ((52 + (7 * a2)) + 4))) / ((smi (smi X q19 (Int32.toNatClampNeg (16 + (6 * a1))) ((X.1 q19 (Int32.toNatClampNeg (16 + (6 * a1)))) - (a3 * r23))) q19 (Int32.toNatClampNeg ((52 + (7 * a2)) + 5)) ((((smi X q19 (Int32.toNatClampNeg (16 + (6 * a1))) ((X.1 q19 (Int32.toNatClampNeg (16 + (6 * a1)))) - (a3 * r23))).1 q19 (Int32.toNatClampNeg ((52 + (7 * a2)) + 5))) + (a3 * ((smi X q19 (Int32.toNatClampNeg (16 + (6 * a1))) ((X.1 q19 (Int32.toNatClampNeg (16 + (6 * a1)))) - (a3 * r23))).1 q19 (Int32.toNatClampNeg ((52 + (7 * a2)) + 1))))) - (((smi X q19 (Int32.toNatClampNeg (16 + (6 * a1))) ((X.1 q19 (Int32.toNatClampNeg (16 + (6 * a1)))) - (a3 * r23))).1 q19 (Int32.toNatClampNeg ((52 + (7 * a2)) + 5))) + (a3 * ((smi X q19 (Int32.toNatClampNeg (16 + (6 * a1))) ((X.1 q19 (Int32.toNatClampNeg (16 + (6 * a1)))) - (a3 * r23))).1 q19 (Int32.toNatClampNeg ((52 + (7 * a2)) + 1))))) / ((smi X q19 (Int32.toNatClampNeg (16 + (6 * a1))) ((X.1 q19 (Int32.toNatClampNeg (16 + (6 * a1)))) - (a3 * r23))).1 q19 (Int32.toNatClampNeg ((52 + (7 * a2)) + 3))) * ((smi X q19 (Int32.toNatClampNeg (16 + (6 * a1))) ((X.1 q19 (Int32.toNatClampNeg (16 + (6 * a1)))) - (a3 * r23))).1 q19 (Int32.toNatClampNeg ((52 + (7 * a2)) + 3))))).1 q19 (Int32.toNatClampNeg ((52 + (7 * a2)) + 1))))]) (rest := [.int ((52 + (7 * a2)) + 2), .ref (ad q19)]) (n := 3) C (c_X10_stocked e33) gX10_buys_X10_stocked (by decide +kernel) ⟨Nat.le_of_ble_eq_true rfl, Nat.le_of_ble_eq_true rfl⟩ rfl rfl rfl ⟨Nat.zero_le _, Nat.zero_le _⟩ hl.1 rfl rfl (Nat.le_of_ble_eq_true rfl) dX10_buys_192 ?_
            refine hx_iast (n := (Int32.toNatClampNeg ((52 + (7 * a2)) + 2))) C g21 g29 rfl dX10_buys_195 ?_
            refine hx_aload_n C dX10_buys_196 rfl (lv_at hl 3 rfl) ?_
            refine hx_getr C (ci := 10) (j := 0) g3 uX10_buys_10 (by decide) rfl (by decide) rfl (by decide +kernel) rfl dX10_buys_197 e20 ?_
            refine hx_iload C dX10_buys_200 (lv_at hl 2 rfl) ?_
            refine hx_bipush (v := 6) C dX10_buys_202 (by decide) ?_
            refine hx_iadd C dX10_buys_204 ?_
            refine hx_dup2 C dX10_buys_205 rfl rfl ?_
            obtain ⟨g34, h⟩ := hx_gd h
            refine hx_iald (n := (Int32.toNatClampNeg ((52 + (7 * a2)) + 6))) C g21 g34 rfl dX10_buys_206 ?_
            refine hx_iload C dX10_buys_207 (lv_at hl 0 rfl) ?_
            refine hx_iadd C dX10_buys_209 ?_
            refine hx_iast (n := (Int32.toNatClampNeg ((52 + (7 * a2)) + 6))) C g21 g34 rfl dX10_buys_210 ?_
            refine hx_aload_n C dX10_buys_211 rfl (lv_at hl 3 rfl) ?_
            refine hx_iload_n C dX10_buys_212 rfl (lv_at hl 4 rfl) ?_
            refine hx_iconst (v := 0) C dX10_buys_213 (by decide) ?_
            obtain ⟨r35, e36, h⟩ := hx_bind h
            refine hx_callV (As := [.int a1, .int 0]) (rest := []) (n := 2) (Cn := RX10) C (c_X10_of e36) gX10_buys_X10_of g3 (by decide) rfl (by decide +kernel) ⟨Nat.le_of_ble_eq_true rfl, Nat.le_of_ble_eq_true rfl⟩ rfl rfl rfl ⟨Nat.zero_le _, Nat.zero_le _⟩ hl.1 rfl rfl (Nat.le_of_ble_eq_true rfl) dX10_buys_214 ?_
            obtain ⟨rfl, rfl⟩ := hx_some2 h
            exact hx_iret C hr dX10_buys_217
          · have h := hx_neg c18 h
            refine hx_ldc (v := (-100003)) C (by decide +kernel) dX10_buys_59 ?_
            obtain ⟨rfl, rfl⟩ := hx_some2 h
            exact hx_iret C hr dX10_buys_61
        · have h := hx_neg c15 h
          refine hx_ldc (v := (-100002)) C (by decide +kernel) dX10_buys_46 ?_
          obtain ⟨rfl, rfl⟩ := hx_some2 h
          exact hx_iret C hr dX10_buys_48
      · have h := hx_pos c10 h
        refine hx_ldc (v := (-100001)) C (by decide +kernel) dX10_buys_26 ?_
        obtain ⟨rfl, rfl⟩ := hx_some2 h
        exact hx_iret C hr dX10_buys_28
def f_X10_buy (L : hL) (X : hX) (this : Nat) (a1 : Int32) (a2 : Int32) (a3 : Int32) : Option (Int32 × hX) :=
  (f_X10_keeps L X this).bind fun r1 =>
  if tk L this 10 then
  (f_X10_buys L r1 this a1 a2 a3).bind fun r4 =>
  (f_X10_acted L r4.2 this r4.1).bind fun r6 =>
  some (r6.1, r6.2)
  else none
set_option maxRecDepth 100000 in
set_option maxHeartbeats 4000000 in
theorem c_X10_buy {l : Launch} {dC : Nat → ClassId} {dI : Nat → Nat → Nat} {cy : Nat → ClassId} {ad : Nat → Nat} {L : hL} {X : hX} {this : Nat} {a1 : Int32} {a2 : Int32} {a3 : Int32} {r : Int32} {X' : hX} (h : f_X10_buy L X this a1 a2 a3 = some (r, X')) : hMet l dC dI cy ad L yX10_buy wsX10_buy ({ frames := 3, cells := 0, slots := 0, locals := 69 } : Room) [.ref (ad this), .int a1, .int a2, .int a3] X (some (.int r)) X' := by
  unfold f_X10_buy at h
  refine hx_enter RX10 (plainFor_of_name (by decide)) rfl rfl (Nat.le_of_ble_eq_true rfl) (fun p e s m args below meth c C hr hnm ls hl => ?_)
  have hl : lv_has ls 4 [(0, .ref (ad this)), (1, .int a1), (2, .int a2), (3, .int a3)] := hl
  refine hx_aload_n C dX10_buy_0 rfl (lv_at hl 0 rfl) ?_
  obtain ⟨r1, e2, h⟩ := hx_bind h
  obtain ⟨g3, h⟩ := hx_gd h
  refine hx_callV (As := []) (rest := []) (n := 0) (Cn := RX10) C (c_X10_keeps e2) gX10_buy_X10_keeps g3 (by decide) rfl (by decide +kernel) ⟨Nat.le_of_ble_eq_true rfl, Nat.le_of_ble_eq_true rfl⟩ rfl rfl rfl ⟨Nat.zero_le _, Nat.zero_le _⟩ hl.1 rfl rfl (Nat.le_of_ble_eq_true rfl) dX10_buy_1 ?_
  refine hx_aload_n C dX10_buy_4 rfl (lv_at hl 0 rfl) ?_
  refine hx_aload_n C dX10_buy_5 rfl (lv_at hl 0 rfl) ?_
  refine hx_iload_n C dX10_buy_6 rfl (lv_at hl 1 rfl) ?_
  refine hx_iload_n C dX10_buy_7 rfl (lv_at hl 2 rfl) ?_
  refine hx_iload_n C dX10_buy_8 rfl (lv_at hl 3 rfl) ?_
  obtain ⟨r4, e5, h⟩ := hx_bind h
  refine hx_callV (As := [.int a1, .int a2, .int a3]) (rest := [.ref (ad this)]) (n := 3) (Cn := RX10) C (c_X10_buys e5) gX10_buy_X10_buys g3 (by decide) rfl (by decide +kernel) ⟨Nat.le_of_ble_eq_true rfl, Nat.le_of_ble_eq_true rfl⟩ rfl rfl rfl ⟨Nat.zero_le _, Nat.zero_le _⟩ hl.1 rfl rfl (Nat.le_of_ble_eq_true rfl) dX10_buy_9 ?_
  obtain ⟨r6, e7, h⟩ := hx_bind h
  refine hx_callV (As := [.int r4.1]) (rest := []) (n := 1) (Cn := RX10) C (c_X10_acted e7) gX10_buy_X10_acted g3 (by decide) rfl (by decide +kernel) ⟨Nat.le_of_ble_eq_true rfl, Nat.le_of_ble_eq_true rfl⟩ rfl rfl rfl ⟨Nat.zero_le _, Nat.zero_le _⟩ hl.1 rfl rfl (Nat.le_of_ble_eq_true rfl) dX10_buy_12 ?_
  obtain ⟨rfl, rfl⟩ := hx_some2 h
  exact hx_iret C hr dX10_buy_15
theorem uX10_pointsOfAll_10 : ∀ w ∈ u_ws RX10 TX10 15, w ∈ wsX10_pointsOfAll := by decide +kernel
def f_X10_pointsOfAll_4 (L : hL) : Nat → Nat → Int32 → Int32 → hX → Option (Int32)
  | 0, _, _, _, _ => none
  | n + 1, v0, v1, v2, X =>
    if tk L v0 10 then
    (X.2 v0 0).bind fun q2 =>
    if tk L q2 12 then
    if 14 < L.2.2 q2 then
    if (X.1 q2 14) ≤ v2 then
      some v1
    else
      (f_X10_of L X v0 v2 0).bind fun r7 =>
      f_X10_pointsOfAll_4 L n v0 (v1 + r7) (v2 + 1) X
    else none
    else none
    else none
set_option maxRecDepth 100000 in
set_option maxHeartbeats 4000000 in
theorem w_X10_pointsOfAll_4 {p : Program} {l : Launch} {e : Env} {s : State} {m : MethodId} {args : Array Value} {below : List Frame} {meth : Method} {c : Code} {dC : Nat → ClassId} {dI : Nat → Nat → Nat} {cy : Nat → ClassId} {ad : Nat → Nat} {L : hL} {r : Int32} (C : hC p s m args meth c dC dI cy ad L (hA ad L s.heap.size) cX10_pointsOfAll 3 wsX10_pointsOfAll RX10) (hr : meth.sig.returnType = (some .int)) : ∀ (n : Nat) (v0 : Nat) (v1 : Int32) (v2 : Int32) (X : hX) (ls : Array Slot), f_X10_pointsOfAll_4 L n v0 v1 v2 X = some r → lv_has ls 3 [(0, .ref (ad v0)), (1, .int v1), (2, .int v2)] → hG p l e (headSpec wsX10_pointsOfAll ({ frames := 1, cells := 0, slots := 0, locals := 22 } : Room)).room s m args below meth c dC dI cy ad L (hA ad L s.heap.size) 0 0 (MQ below (hQ dC dI cy ad L s.heap.size (some (.int r)) X) args s 0 0 (hA ad L s.heap.size)) X 4 ls [] := by
  intro n
  induction n with
  | zero => intro v0 v1 v2 X ls h; cases h
  | succ n ih =>
    intro v0 v1 v2 X ls h hl
    rw [f_X10_pointsOfAll_4] at h
    refine hx_iload_n C dX10_pointsOfAll_4 rfl (lv_at hl 2 rfl) ?_
    refine hx_aload_n C dX10_pointsOfAll_5 rfl (lv_at hl 0 rfl) ?_
    obtain ⟨g1, h⟩ := hx_gd h
    obtain ⟨q2, e3, h⟩ := hx_bind h
    refine hx_getr C (ci := 10) (j := 0) g1 uX10_pointsOfAll_10 (by decide) rfl (by decide) rfl (by decide +kernel) rfl dX10_pointsOfAll_6 e3 ?_
    refine hx_bipush (v := 14) C dX10_pointsOfAll_9 (by decide) ?_
    obtain ⟨g4, h⟩ := hx_gd h
    obtain ⟨g5, h⟩ := hx_gd h
    refine hx_iald (n := 14) C g4 (hin_lit (i := 14) (by decide) rfl g5) rfl dX10_pointsOfAll_11 ?_
    refine hx_icmp_ge (tgt := 30) C dX10_pointsOfAll_12 (by decide) (fun c6 => ?_) (fun c6 => ?_)
    · have h := hx_pos c6 h
      refine hx_iload_n C dX10_pointsOfAll_30 rfl (lv_at hl 1 rfl) ?_
      obtain rfl := hx_some1 h
      exact hx_iret C hr dX10_pointsOfAll_31
    · have h := hx_neg c6 h
      refine hx_iload_n C dX10_pointsOfAll_15 rfl (lv_at hl 1 rfl) ?_
      refine hx_aload_n C dX10_pointsOfAll_16 rfl (lv_at hl 0 rfl) ?_
      refine hx_iload_n C dX10_pointsOfAll_17 rfl (lv_at hl 2 rfl) ?_
      refine hx_iconst (v := 0) C dX10_pointsOfAll_18 (by decide) ?_
      obtain ⟨r7, e8, h⟩ := hx_bind h
      refine hx_callV (As := [.int v2, .int 0]) (rest := [.int v1]) (n := 2) (Cn := RX10) C (c_X10_of e8) gX10_pointsOfAll_X10_of g1 (by decide) rfl (by decide +kernel) ⟨Nat.le_of_ble_eq_true rfl, Nat.le_of_ble_eq_true rfl⟩ rfl rfl rfl ⟨Nat.zero_le _, Nat.zero_le _⟩ hl.1 rfl rfl (Nat.le_of_ble_eq_true rfl) dX10_pointsOfAll_19 ?_
      refine hx_iadd C dX10_pointsOfAll_22 ?_
      refine hx_istore_n (lv' := [(1, .int (v1 + r7)), (0, .ref (ad v0)), (2, .int v2)]) C dX10_pointsOfAll_23 rfl hl (by decide) rfl (fun ls hl => ?_)
      refine hx_iinc (v := v2 + 1) (lv' := [(2, .int (v2 + 1)), (1, .int (v1 + r7)), (0, .ref (ad v0))]) C dX10_pointsOfAll_24 hl (k := 2) rfl rfl (by decide) rfl (fun ls hl => ?_)
      refine hx_goto (tgt := 4) C dX10_pointsOfAll_27 (by decide) ?_
      exact ih v0 (v1 + r7) (v2 + 1) X ls h (lv_sub hl [2, 1, 0] rfl)
def f_X10_pointsOfAll (L : hL) (X : hX) (this : Nat) : Option (Int32) :=
  f_X10_pointsOfAll_4 L u_fuel this 0 0 X
set_option maxRecDepth 100000 in
set_option maxHeartbeats 4000000 in
theorem c_X10_pointsOfAll {l : Launch} {dC : Nat → ClassId} {dI : Nat → Nat → Nat} {cy : Nat → ClassId} {ad : Nat → Nat} {L : hL} {X : hX} {this : Nat} {r : Int32} (h : f_X10_pointsOfAll L X this = some r) : hMet l dC dI cy ad L yX10_pointsOfAll wsX10_pointsOfAll ({ frames := 1, cells := 0, slots := 0, locals := 22 } : Room) [.ref (ad this)] X (some (.int r)) X := by
  unfold f_X10_pointsOfAll at h
  refine hx_enter RX10 (plainFor_of_name (by decide)) rfl rfl (Nat.le_of_ble_eq_true rfl) (fun p e s m args below meth c C hr hnm ls hl => ?_)
  have hl : lv_has ls 3 [(0, .ref (ad this))] := hl
  refine hx_iconst (v := 0) C dX10_pointsOfAll_0 (by decide) ?_
  refine hx_istore_n (lv' := [(1, .int 0), (0, .ref (ad this))]) C dX10_pointsOfAll_1 rfl hl (by decide) rfl (fun ls hl => ?_)
  refine hx_iconst (v := 0) C dX10_pointsOfAll_2 (by decide) ?_
  refine hx_istore_n (lv' := [(2, .int 0), (1, .int 0), (0, .ref (ad this))]) C dX10_pointsOfAll_3 rfl hl (by decide) rfl (fun ls hl => ?_)
  exact w_X10_pointsOfAll_4 C hr u_fuel this 0 0 X ls h (lv_sub hl [2, 1, 0] rfl)
theorem uX10_take_10 : ∀ w ∈ u_ws RX10 TX10 15, w ∈ wsX10_take := by decide +kernel
def f_X10_take_33 (L : hL) : Nat → Nat → Int32 → Int32 → hX → Option (Int32 × hX)
  | 0, _, _, _, _ => none
  | n + 1, v0, v2, v3, X =>
    if 94 ≤ v3 then
      (f_X10_pointsOfAll L X v0).bind fun r2 =>
      if tk L v0 10 then
      (f_X10_acted L X v0 r2).bind fun r5 =>
      some (r5.1, r5.2)
      else none
    else
      if tk L v0 10 then
      (X.2 v0 0).bind fun q8 =>
      if tk L q8 12 then
      if hin v3 (L.2.2 q8) then
      if hin ((v2 + 1) + v3) (L.2.2 q8) then
      f_X10_take_33 L n v0 v2 (v3 + 1) (smi X q8 (Int32.toNatClampNeg ((v2 + 1) + v3)) (X.1 q8 (Int32.toNatClampNeg v3)))
      else none
      else none
      else none
      else none
set_option maxRecDepth 100000 in
set_option maxHeartbeats 4000000 in
theorem w_X10_take_33 {p : Program} {l : Launch} {e : Env} {s : State} {m : MethodId} {args : Array Value} {below : List Frame} {meth : Method} {c : Code} {dC : Nat → ClassId} {dI : Nat → Nat → Nat} {cy : Nat → ClassId} {ad : Nat → Nat} {L : hL} {r : Int32} {X' : hX} (C : hC p s m args meth c dC dI cy ad L (hA ad L s.heap.size) cX10_take 4 wsX10_take RX10) (hr : meth.sig.returnType = (some .int)) : ∀ (n : Nat) (v0 : Nat) (v2 : Int32) (v3 : Int32) (X : hX) (ls : Array Slot), f_X10_take_33 L n v0 v2 v3 X = some (r, X') → lv_has ls 4 [(0, .ref (ad v0)), (2, .int v2), (3, .int v3)] → hG p l e (headSpec wsX10_take ({ frames := 2, cells := 0, slots := 0, locals := 44 } : Room)).room s m args below meth c dC dI cy ad L (hA ad L s.heap.size) 0 0 (MQ below (hQ dC dI cy ad L s.heap.size (some (.int r)) X') args s 0 0 (hA ad L s.heap.size)) X 33 ls [] := by
  intro n
  induction n with
  | zero => intro v0 v2 v3 X ls h; cases h
  | succ n ih =>
    intro v0 v2 v3 X ls h hl
    rw [f_X10_take_33] at h
    refine hx_iload_n C dX10_take_33 rfl (lv_at hl 2 rfl) ?_
    refine hx_bipush (v := 94) C dX10_take_34 (by decide) ?_
    refine hx_icmp_ge (tgt := 61) C dX10_take_36 (by decide) (fun c1 => ?_) (fun c1 => ?_)
    · have h := hx_pos c1 h
      refine hx_aload_n C dX10_take_61 rfl (lv_at hl 0 rfl) ?_
      refine hx_aload_n C dX10_take_62 rfl (lv_at hl 0 rfl) ?_
      obtain ⟨r2, e3, h⟩ := hx_bind h
      obtain ⟨g4, h⟩ := hx_gd h
      refine hx_callV (As := []) (rest := [.ref (ad v0)]) (n := 0) (Cn := RX10) C (c_X10_pointsOfAll e3) gX10_take_X10_pointsOfAll g4 (by decide) rfl (by decide +kernel) ⟨Nat.le_of_ble_eq_true rfl, Nat.le_of_ble_eq_true rfl⟩ rfl rfl rfl ⟨Nat.zero_le _, Nat.zero_le _⟩ hl.1 rfl rfl (Nat.le_of_ble_eq_true rfl) dX10_take_63 ?_
      obtain ⟨r5, e6, h⟩ := hx_bind h
      refine hx_callV (As := [.int r2]) (rest := []) (n := 1) (Cn := RX10) C (c_X10_acted e6) gX10_take_X10_acted g4 (by decide) rfl (by decide +kernel) ⟨Nat.le_of_ble_eq_true rfl, Nat.le_of_ble_eq_true rfl⟩ rfl rfl rfl ⟨Nat.zero_le _, Nat.zero_le _⟩ hl.1 rfl rfl (Nat.le_of_ble_eq_true rfl) dX10_take_66 ?_
      obtain ⟨rfl, rfl⟩ := hx_some2 h
      exact hx_iret C hr dX10_take_69
    · have h := hx_neg c1 h
      refine hx_aload_n C dX10_take_39 rfl (lv_at hl 0 rfl) ?_
      obtain ⟨g7, h⟩ := hx_gd h
      obtain ⟨q8, e9, h⟩ := hx_bind h
      refine hx_getr C (ci := 10) (j := 0) g7 uX10_take_10 (by decide) rfl (by decide) rfl (by decide +kernel) rfl dX10_take_40 e9 ?_
      refine hx_iload_n C dX10_take_43 rfl (lv_at hl 1 rfl) ?_
      refine hx_iconst (v := 1) C dX10_take_44 (by decide) ?_
      refine hx_iadd C dX10_take_45 ?_
      refine hx_iload_n C dX10_take_46 rfl (lv_at hl 2 rfl) ?_
      refine hx_iadd C dX10_take_47 ?_
      refine hx_aload_n C dX10_take_48 rfl (lv_at hl 0 rfl) ?_
      refine hx_getr C (ci := 10) (j := 0) g7 uX10_take_10 (by decide) rfl (by decide) rfl (by decide +kernel) rfl dX10_take_49 e9 ?_
      refine hx_iload_n C dX10_take_52 rfl (lv_at hl 2 rfl) ?_
      obtain ⟨g10, h⟩ := hx_gd h
      obtain ⟨g11, h⟩ := hx_gd h
      refine hx_iald (n := (Int32.toNatClampNeg v3)) C g10 g11 rfl dX10_take_53 ?_
      obtain ⟨g12, h⟩ := hx_gd h
      refine hx_iast (n := (Int32.toNatClampNeg ((v2 + 1) + v3))) C g10 g12 rfl dX10_take_54 ?_
      refine hx_iinc (v := v3 + 1) (lv' := [(3, .int (v3 + 1)), (0, .ref (ad v0)), (2, .int v2)]) C dX10_take_55 hl (k := 2) rfl rfl (by decide) rfl (fun ls hl => ?_)
      refine hx_goto (tgt := 33) C dX10_take_58 (by decide) ?_
      exact ih v0 v2 (v3 + 1) (smi X q8 (Int32.toNatClampNeg ((v2 + 1) + v3)) (X.1 q8 (Int32.toNatClampNeg v3))) ls h (lv_sub hl [1, 2, 0] rfl)
def f_X10_take (L : hL) (X : hX) (this : Nat) (a1 : Int32) : Option (Int32 × hX) :=
  (f_X10_in L X a1 0 1).bind fun r13 =>
  if r13 = 0 then
    some ((-100001), X)
  else
    (f_X10_keeps L X this).bind fun r16 =>
    if tk L this 10 then
    (r16.2 this 0).bind fun q19 =>
    if tk L q19 12 then
    if hin (94 + (95 * a1)) (L.2.2 q19) then
    f_X10_take_33 L u_fuel this (94 + (95 * a1)) 0 (smi r16 q19 (Int32.toNatClampNeg (94 + (95 * a1))) 1)
    else none
    else none
    else none
set_option maxRecDepth 100000 in
set_option maxHeartbeats 4000000 in
theorem c_X10_take {l : Launch} {dC : Nat → ClassId} {dI : Nat → Nat → Nat} {cy : Nat → ClassId} {ad : Nat → Nat} {L : hL} {X : hX} {this : Nat} {a1 : Int32} {r : Int32} {X' : hX} (h : f_X10_take L X this a1 = some (r, X')) : hMet l dC dI cy ad L yX10_take wsX10_take ({ frames := 2, cells := 0, slots := 0, locals := 44 } : Room) [.ref (ad this), .int a1] X (some (.int r)) X' := by
  unfold f_X10_take at h
  refine hx_enter RX10 (plainFor_of_name (by decide)) rfl rfl (Nat.le_of_ble_eq_true rfl) (fun p e s m args below meth c C hr hnm ls hl => ?_)
  have hl : lv_has ls 4 [(0, .ref (ad this)), (1, .int a1)] := hl
  refine hx_iload_n C dX10_take_0 rfl (lv_at hl 1 rfl) ?_
  refine hx_iconst (v := 0) C dX10_take_1 (by decide) ?_
  refine hx_iconst (v := 1) C dX10_take_2 (by decide) ?_
  obtain ⟨r13, e14, h⟩ := hx_bind h
  refine hx_callS (As := [.int a1, .int 0, .int 1]) (rest := []) (n := 3) C (c_X10_in e14) gX10_take_X10_in (by decide +kernel) ⟨Nat.le_of_ble_eq_true rfl, Nat.le_of_ble_eq_true rfl⟩ rfl rfl rfl ⟨Nat.zero_le _, Nat.zero_le _⟩ hl.1 rfl rfl (Nat.le_of_ble_eq_true rfl) dX10_take_3 ?_
  refine hx_if_ne (tgt := 12) C dX10_take_6 (by decide) (fun c15 => ?_) (fun c15 => ?_)
  · have h := hx_neg c15 h
    refine hx_aload_n C dX10_take_12 rfl (lv_at hl 0 rfl) ?_
    obtain ⟨r16, e17, h⟩ := hx_bind h
    obtain ⟨g18, h⟩ := hx_gd h
    refine hx_callV (As := []) (rest := []) (n := 0) (Cn := RX10) C (c_X10_keeps e17) gX10_take_X10_keeps g18 (by decide) rfl (by decide +kernel) ⟨Nat.le_of_ble_eq_true rfl, Nat.le_of_ble_eq_true rfl⟩ rfl rfl rfl ⟨Nat.zero_le _, Nat.zero_le _⟩ hl.1 rfl rfl (Nat.le_of_ble_eq_true rfl) dX10_take_13 ?_
    refine hx_bipush (v := 94) C dX10_take_16 (by decide) ?_
    refine hx_bipush (v := 95) C dX10_take_18 (by decide) ?_
    refine hx_iload_n C dX10_take_20 rfl (lv_at hl 1 rfl) ?_
    refine hx_imul C dX10_take_21 ?_
    refine hx_iadd C dX10_take_22 ?_
    refine hx_istore_n (lv' := [(2, .int (94 + (95 * a1))), (0, .ref (ad this)), (1, .int a1)]) C dX10_take_23 rfl hl (by decide) rfl (fun ls hl => ?_)
    refine hx_aload_n C dX10_take_24 rfl (lv_at hl 1 rfl) ?_
    obtain ⟨q19, e20, h⟩ := hx_bind h
    refine hx_getr C (ci := 10) (j := 0) g18 uX10_take_10 (by decide) rfl (by decide) rfl (by decide +kernel) rfl dX10_take_25 e20 ?_
    refine hx_iload_n C dX10_take_28 rfl (lv_at hl 0 rfl) ?_
    refine hx_iconst (v := 1) C dX10_take_29 (by decide) ?_
    obtain ⟨g21, h⟩ := hx_gd h
    obtain ⟨g22, h⟩ := hx_gd h
    refine hx_iast (n := (Int32.toNatClampNeg (94 + (95 * a1)))) C g21 g22 rfl dX10_take_30 ?_
    refine hx_iconst (v := 0) C dX10_take_31 (by decide) ?_
    refine hx_istore_n (lv' := [(3, .int 0), (2, .int (94 + (95 * a1))), (0, .ref (ad this)), (1, .int a1)]) C dX10_take_32 rfl hl (by decide) rfl (fun ls hl => ?_)
    exact w_X10_take_33 C hr u_fuel this (94 + (95 * a1)) 0 (smi r16 q19 (Int32.toNatClampNeg (94 + (95 * a1))) 1) ls h (lv_sub hl [2, 1, 0] rfl)
  · have h := hx_pos c15 h
    refine hx_ldc (v := (-100001)) C (by decide +kernel) dX10_take_9 ?_
    obtain ⟨rfl, rfl⟩ := hx_some2 h
    exact hx_iret C hr dX10_take_11
theorem uX10_restore_10 : ∀ w ∈ u_ws RX10 TX10 15, w ∈ wsX10_restore := by decide +kernel
def f_X10_restore_38 (L : hL) : Nat → Nat → Int32 → Int32 → hX → Option (Int32 × hX)
  | 0, _, _, _, _ => none
  | n + 1, v0, v2, v3, X =>
    if 94 ≤ v3 then
      (f_X10_pointsOfAll L X v0).bind fun r2 =>
      if tk L v0 10 then
      (f_X10_acted L X v0 r2).bind fun r5 =>
      some (r5.1, r5.2)
      else none
    else
      if tk L v0 10 then
      (X.2 v0 0).bind fun q8 =>
      if tk L q8 12 then
      if hin ((v2 + 1) + v3) (L.2.2 q8) then
      if hin v3 (L.2.2 q8) then
      f_X10_restore_38 L n v0 v2 (v3 + 1) (smi X q8 (Int32.toNatClampNeg v3) (X.1 q8 (Int32.toNatClampNeg ((v2 + 1) + v3))))
      else none
      else none
      else none
      else none
set_option maxRecDepth 100000 in
set_option maxHeartbeats 4000000 in
theorem w_X10_restore_38 {p : Program} {l : Launch} {e : Env} {s : State} {m : MethodId} {args : Array Value} {below : List Frame} {meth : Method} {c : Code} {dC : Nat → ClassId} {dI : Nat → Nat → Nat} {cy : Nat → ClassId} {ad : Nat → Nat} {L : hL} {r : Int32} {X' : hX} (C : hC p s m args meth c dC dI cy ad L (hA ad L s.heap.size) cX10_restore 4 wsX10_restore RX10) (hr : meth.sig.returnType = (some .int)) : ∀ (n : Nat) (v0 : Nat) (v2 : Int32) (v3 : Int32) (X : hX) (ls : Array Slot), f_X10_restore_38 L n v0 v2 v3 X = some (r, X') → lv_has ls 4 [(0, .ref (ad v0)), (2, .int v2), (3, .int v3)] → hG p l e (headSpec wsX10_restore ({ frames := 2, cells := 0, slots := 0, locals := 44 } : Room)).room s m args below meth c dC dI cy ad L (hA ad L s.heap.size) 0 0 (MQ below (hQ dC dI cy ad L s.heap.size (some (.int r)) X') args s 0 0 (hA ad L s.heap.size)) X 38 ls [] := by
  intro n
  induction n with
  | zero => intro v0 v2 v3 X ls h; cases h
  | succ n ih =>
    intro v0 v2 v3 X ls h hl
    rw [f_X10_restore_38] at h
    refine hx_iload_n C dX10_restore_38 rfl (lv_at hl 2 rfl) ?_
    refine hx_bipush (v := 94) C dX10_restore_39 (by decide) ?_
    refine hx_icmp_ge (tgt := 66) C dX10_restore_41 (by decide) (fun c1 => ?_) (fun c1 => ?_)
    · have h := hx_pos c1 h
      refine hx_aload_n C dX10_restore_66 rfl (lv_at hl 0 rfl) ?_
      refine hx_aload_n C dX10_restore_67 rfl (lv_at hl 0 rfl) ?_
      obtain ⟨r2, e3, h⟩ := hx_bind h
      obtain ⟨g4, h⟩ := hx_gd h
      refine hx_callV (As := []) (rest := [.ref (ad v0)]) (n := 0) (Cn := RX10) C (c_X10_pointsOfAll e3) gX10_restore_X10_pointsOfAll g4 (by decide) rfl (by decide +kernel) ⟨Nat.le_of_ble_eq_true rfl, Nat.le_of_ble_eq_true rfl⟩ rfl rfl rfl ⟨Nat.zero_le _, Nat.zero_le _⟩ hl.1 rfl rfl (Nat.le_of_ble_eq_true rfl) dX10_restore_68 ?_
      obtain ⟨r5, e6, h⟩ := hx_bind h
      refine hx_callV (As := [.int r2]) (rest := []) (n := 1) (Cn := RX10) C (c_X10_acted e6) gX10_restore_X10_acted g4 (by decide) rfl (by decide +kernel) ⟨Nat.le_of_ble_eq_true rfl, Nat.le_of_ble_eq_true rfl⟩ rfl rfl rfl ⟨Nat.zero_le _, Nat.zero_le _⟩ hl.1 rfl rfl (Nat.le_of_ble_eq_true rfl) dX10_restore_71 ?_
      obtain ⟨rfl, rfl⟩ := hx_some2 h
      exact hx_iret C hr dX10_restore_74
    · have h := hx_neg c1 h
      refine hx_aload_n C dX10_restore_44 rfl (lv_at hl 0 rfl) ?_
      obtain ⟨g7, h⟩ := hx_gd h
      obtain ⟨q8, e9, h⟩ := hx_bind h
      refine hx_getr C (ci := 10) (j := 0) g7 uX10_restore_10 (by decide) rfl (by decide) rfl (by decide +kernel) rfl dX10_restore_45 e9 ?_
      refine hx_iload_n C dX10_restore_48 rfl (lv_at hl 2 rfl) ?_
      refine hx_aload_n C dX10_restore_49 rfl (lv_at hl 0 rfl) ?_
      refine hx_getr C (ci := 10) (j := 0) g7 uX10_restore_10 (by decide) rfl (by decide) rfl (by decide +kernel) rfl dX10_restore_50 e9 ?_
      refine hx_iload_n C dX10_restore_53 rfl (lv_at hl 1 rfl) ?_
      refine hx_iconst (v := 1) C dX10_restore_54 (by decide) ?_
      refine hx_iadd C dX10_restore_55 ?_
      refine hx_iload_n C dX10_restore_56 rfl (lv_at hl 2 rfl) ?_
      refine hx_iadd C dX10_restore_57 ?_
      obtain ⟨g10, h⟩ := hx_gd h
      obtain ⟨g11, h⟩ := hx_gd h
      refine hx_iald (n := (Int32.toNatClampNeg ((v2 + 1) + v3))) C g10 g11 rfl dX10_restore_58 ?_
      obtain ⟨g12, h⟩ := hx_gd h
      refine hx_iast (n := (Int32.toNatClampNeg v3)) C g10 g12 rfl dX10_restore_59 ?_
      refine hx_iinc (v := v3 + 1) (lv' := [(3, .int (v3 + 1)), (0, .ref (ad v0)), (2, .int v2)]) C dX10_restore_60 hl (k := 2) rfl rfl (by decide) rfl (fun ls hl => ?_)
      refine hx_goto (tgt := 38) C dX10_restore_63 (by decide) ?_
      exact ih v0 v2 (v3 + 1) (smi X q8 (Int32.toNatClampNeg v3) (X.1 q8 (Int32.toNatClampNeg ((v2 + 1) + v3)))) ls h (lv_sub hl [1, 2, 0] rfl)
def f_X10_restore (L : hL) (X : hX) (this : Nat) (a1 : Int32) : Option (Int32 × hX) :=
  (f_X10_in L X a1 0 1).bind fun r13 =>
  if r13 = 0 then
    some ((-100001), X)
  else
    if tk L this 10 then
    (X.2 this 0).bind fun q17 =>
    if tk L q17 12 then
    if hin (94 + (95 * a1)) (L.2.2 q17) then
    if (X.1 q17 (Int32.toNatClampNeg (94 + (95 * a1)))) = 0 then
      some ((-100002), X)
    else
      (f_X10_keeps L X this).bind fun r22 =>
      f_X10_restore_38 L u_fuel this (94 + (95 * a1)) 0 r22
    else none
    else none
    else none
set_option maxRecDepth 100000 in
set_option maxHeartbeats 4000000 in
theorem c_X10_restore {l : Launch} {dC : Nat → ClassId} {dI : Nat → Nat → Nat} {cy : Nat → ClassId} {ad : Nat → Nat} {L : hL} {X : hX} {this : Nat} {a1 : Int32} {r : Int32} {X' : hX} (h : f_X10_restore L X this a1 = some (r, X')) : hMet l dC dI cy ad L yX10_restore wsX10_restore ({ frames := 2, cells := 0, slots := 0, locals := 44 } : Room) [.ref (ad this), .int a1] X (some (.int r)) X' := by
  unfold f_X10_restore at h
  refine hx_enter RX10 (plainFor_of_name (by decide)) rfl rfl (Nat.le_of_ble_eq_true rfl) (fun p e s m args below meth c C hr hnm ls hl => ?_)
  have hl : lv_has ls 4 [(0, .ref (ad this)), (1, .int a1)] := hl
  refine hx_iload_n C dX10_restore_0 rfl (lv_at hl 1 rfl) ?_
  refine hx_iconst (v := 0) C dX10_restore_1 (by decide) ?_
  refine hx_iconst (v := 1) C dX10_restore_2 (by decide) ?_
  obtain ⟨r13, e14, h⟩ := hx_bind h
  refine hx_callS (As := [.int a1, .int 0, .int 1]) (rest := []) (n := 3) C (c_X10_in e14) gX10_restore_X10_in (by decide +kernel) ⟨Nat.le_of_ble_eq_true rfl, Nat.le_of_ble_eq_true rfl⟩ rfl rfl rfl ⟨Nat.zero_le _, Nat.zero_le _⟩ hl.1 rfl rfl (Nat.le_of_ble_eq_true rfl) dX10_restore_3 ?_
  refine hx_if_ne (tgt := 12) C dX10_restore_6 (by decide) (fun c15 => ?_) (fun c15 => ?_)
  · have h := hx_neg c15 h
    refine hx_bipush (v := 94) C dX10_restore_12 (by decide) ?_
    refine hx_bipush (v := 95) C dX10_restore_14 (by decide) ?_
    refine hx_iload_n C dX10_restore_16 rfl (lv_at hl 1 rfl) ?_
    refine hx_imul C dX10_restore_17 ?_
    refine hx_iadd C dX10_restore_18 ?_
    refine hx_istore_n (lv' := [(2, .int (94 + (95 * a1))), (0, .ref (ad this)), (1, .int a1)]) C dX10_restore_19 rfl hl (by decide) rfl (fun ls hl => ?_)
    refine hx_aload_n C dX10_restore_20 rfl (lv_at hl 1 rfl) ?_
    obtain ⟨g16, h⟩ := hx_gd h
    obtain ⟨q17, e18, h⟩ := hx_bind h
    refine hx_getr C (ci := 10) (j := 0) g16 uX10_restore_10 (by decide) rfl (by decide) rfl (by decide +kernel) rfl dX10_restore_21 e18 ?_
    refine hx_iload_n C dX10_restore_24 rfl (lv_at hl 0 rfl) ?_
    obtain ⟨g19, h⟩ := hx_gd h
    obtain ⟨g20, h⟩ := hx_gd h
    refine hx_iald (n := (Int32.toNatClampNeg (94 + (95 * a1)))) C g19 g20 rfl dX10_restore_25 ?_
    refine hx_if_ne (tgt := 32) C dX10_restore_26 (by decide) (fun c21 => ?_) (fun c21 => ?_)
    · have h := hx_neg c21 h
      refine hx_aload_n C dX10_restore_32 rfl (lv_at hl 1 rfl) ?_
      obtain ⟨r22, e23, h⟩ := hx_bind h
      refine hx_callV (As := []) (rest := []) (n := 0) (Cn := RX10) C (c_X10_keeps e23) gX10_restore_X10_keeps g16 (by decide) rfl (by decide +kernel) ⟨Nat.le_of_ble_eq_true rfl, Nat.le_of_ble_eq_true rfl⟩ rfl rfl rfl ⟨Nat.zero_le _, Nat.zero_le _⟩ hl.1 rfl rfl (Nat.le_of_ble_eq_true rfl) dX10_restore_33 ?_
      refine hx_iconst (v := 0) C dX10_restore_36 (by decide) ?_
      refine hx_istore_n (lv' := [(3, .int 0), (2, .int (94 + (95 * a1))), (0, .ref (ad this)), (1, .int a1)]) C dX10_restore_37 rfl hl (by decide) rfl (fun ls hl => ?_)
      exact w_X10_restore_38 C hr u_fuel this (94 + (95 * a1)) 0 r22 ls h (lv_sub hl [2, 1, 0] rfl)
    · have h := hx_pos c21 h
      refine hx_ldc (v := (-100002)) C (by decide +kernel) dX10_restore_29 ?_
      obtain ⟨rfl, rfl⟩ := hx_some2 h
      exact hx_iret C hr dX10_restore_31
  · have h := hx_pos c15 h
    refine hx_ldc (v := (-100001)) C (by decide +kernel) dX10_restore_9 ?_
    obtain ⟨rfl, rfl⟩ := hx_some2 h
    exact hx_iret C hr dX10_restore_11
theorem uX10_undo_10 : ∀ w ∈ u_ws RX10 TX10 15, w ∈ wsX10_undo := by decide +kernel
def f_X10_undo_22 (L : hL) : Nat → Nat → Int32 → hX → Option (Int32 × hX)
  | 0, _, _, _ => none
  | n + 1, v0, v1, X =>
    if 284 ≤ v1 then
      if tk L v0 10 then
      some (X.1 v0 4, X)
      else none
    else
      if tk L v0 10 then
      (X.2 v0 0).bind fun q4 =>
      (X.2 v0 3).bind fun q6 =>
      if tk L q6 12 then
      if hin ((284 * (X.1 v0 4)) + v1) (L.2.2 q6) then
      if tk L q4 12 then
      if hin v1 (L.2.2 q4) then
      f_X10_undo_22 L n v0 (v1 + 1) (smi X q4 (Int32.toNatClampNeg v1) (X.1 q6 (Int32.toNatClampNeg ((284 * (X.1 v0 4)) + v1))))
      else none
      else none
      else none
      else none
      else none
set_option maxRecDepth 100000 in
set_option maxHeartbeats 4000000 in
theorem w_X10_undo_22 {p : Program} {l : Launch} {e : Env} {s : State} {m : MethodId} {args : Array Value} {below : List Frame} {meth : Method} {c : Code} {dC : Nat → ClassId} {dI : Nat → Nat → Nat} {cy : Nat → ClassId} {ad : Nat → Nat} {L : hL} {r : Int32} {X' : hX} (C : hC p s m args meth c dC dI cy ad L (hA ad L s.heap.size) cX10_undo 2 wsX10_undo RX10) (hr : meth.sig.returnType = (some .int)) : ∀ (n : Nat) (v0 : Nat) (v1 : Int32) (X : hX) (ls : Array Slot), f_X10_undo_22 L n v0 v1 X = some (r, X') → lv_has ls 2 [(0, .ref (ad v0)), (1, .int v1)] → hG p l e (headSpec wsX10_undo ({ frames := 0, cells := 0, slots := 0, locals := 0 } : Room)).room s m args below meth c dC dI cy ad L (hA ad L s.heap.size) 0 0 (MQ below (hQ dC dI cy ad L s.heap.size (some (.int r)) X') args s 0 0 (hA ad L s.heap.size)) X 22 ls [] := by
  intro n
  induction n with
  | zero => intro v0 v1 X ls h; cases h
  | succ n ih =>
    intro v0 v1 X ls h hl
    rw [f_X10_undo_22] at h
    refine hx_iload_n C dX10_undo_22 rfl (lv_at hl 1 rfl) ?_
    refine hx_sipush (v := 284) C dX10_undo_23 (by decide) ?_
    refine hx_icmp_ge (tgt := 56) C dX10_undo_26 (by decide) (fun c1 => ?_) (fun c1 => ?_)
    · have h := hx_pos c1 h
      refine hx_aload_n C dX10_undo_56 rfl (lv_at hl 0 rfl) ?_
      obtain ⟨g2, h⟩ := hx_gd h
      refine hx_geti C (ci := 10) (j := 4) g2 uX10_undo_10 (by decide) rfl (by decide) rfl (by decide +kernel) rfl dX10_undo_57 ?_
      obtain ⟨rfl, rfl⟩ := hx_some2 h
      exact hx_iret C hr dX10_undo_60
    · have h := hx_neg c1 h
      refine hx_aload_n C dX10_undo_29 rfl (lv_at hl 0 rfl) ?_
      obtain ⟨g3, h⟩ := hx_gd h
      obtain ⟨q4, e5, h⟩ := hx_bind h
      refine hx_getr C (ci := 10) (j := 0) g3 uX10_undo_10 (by decide) rfl (by decide) rfl (by decide +kernel) rfl dX10_undo_30 e5 ?_
      refine hx_iload_n C dX10_undo_33 rfl (lv_at hl 1 rfl) ?_
      refine hx_aload_n C dX10_undo_34 rfl (lv_at hl 0 rfl) ?_
      obtain ⟨q6, e7, h⟩ := hx_bind h
      refine hx_getr C (ci := 10) (j := 3) g3 uX10_undo_10 (by decide) rfl (by decide) rfl (by decide +kernel) rfl dX10_undo_35 e7 ?_
      refine hx_sipush (v := 284) C dX10_undo_38 (by decide) ?_
      refine hx_aload_n C dX10_undo_41 rfl (lv_at hl 0 rfl) ?_
      refine hx_geti C (ci := 10) (j := 4) g3 uX10_undo_10 (by decide) rfl (by decide) rfl (by decide +kernel) rfl dX10_undo_42 ?_
      refine hx_imul C dX10_undo_45 ?_
      refine hx_iload_n C dX10_undo_46 rfl (lv_at hl 1 rfl) ?_
      refine hx_iadd C dX10_undo_47 ?_
      obtain ⟨g8, h⟩ := hx_gd h
      obtain ⟨g9, h⟩ := hx_gd h
      refine hx_iald (n := (Int32.toNatClampNeg ((284 * (X.1 v0 4)) + v1))) C g8 g9 rfl dX10_undo_48 ?_
      obtain ⟨g10, h⟩ := hx_gd h
      obtain ⟨g11, h⟩ := hx_gd h
      refine hx_iast (n := (Int32.toNatClampNeg v1)) C g10 g11 rfl dX10_undo_49 ?_
      refine hx_iinc (v := v1 + 1) (lv' := [(1, .int (v1 + 1)), (0, .ref (ad v0))]) C dX10_undo_50 hl (k := 1) rfl rfl (by decide) rfl (fun ls hl => ?_)
      refine hx_goto (tgt := 22) C dX10_undo_53 (by decide) ?_
      exact ih v0 (v1 + 1) (smi X q4 (Int32.toNatClampNeg v1) (X.1 q6 (Int32.toNatClampNeg ((284 * (X.1 v0 4)) + v1)))) ls h (lv_sub hl [1, 0] rfl)
def f_X10_undo (L : hL) (X : hX) (this : Nat) : Option (Int32 × hX) :=
  if tk L this 10 then
  if (X.1 this 4) = 0 then
    some ((-100002), X)
  else
    f_X10_undo_22 L u_fuel this 0 (smi X this 4 ((X.1 this 4) - 1))
  else none
set_option maxRecDepth 100000 in
set_option maxHeartbeats 4000000 in
theorem c_X10_undo {l : Launch} {dC : Nat → ClassId} {dI : Nat → Nat → Nat} {cy : Nat → ClassId} {ad : Nat → Nat} {L : hL} {X : hX} {this : Nat} {r : Int32} {X' : hX} (h : f_X10_undo L X this = some (r, X')) : hMet l dC dI cy ad L yX10_undo wsX10_undo ({ frames := 0, cells := 0, slots := 0, locals := 0 } : Room) [.ref (ad this)] X (some (.int r)) X' := by
  unfold f_X10_undo at h
  refine hx_enter RX10 (plainFor_of_name (by decide)) rfl rfl (Nat.le_of_ble_eq_true rfl) (fun p e s m args below meth c C hr hnm ls hl => ?_)
  have hl : lv_has ls 2 [(0, .ref (ad this))] := hl
  refine hx_aload_n C dX10_undo_0 rfl (lv_at hl 0 rfl) ?_
  obtain ⟨g12, h⟩ := hx_gd h
  refine hx_geti C (ci := 10) (j := 4) g12 uX10_undo_10 (by decide) rfl (by decide) rfl (by decide +kernel) rfl dX10_undo_1 ?_
  refine hx_if_ne (tgt := 10) C dX10_undo_4 (by decide) (fun c13 => ?_) (fun c13 => ?_)
  · have h := hx_neg c13 h
    refine hx_aload_n C dX10_undo_10 rfl (lv_at hl 0 rfl) ?_
    refine hx_dup C dX10_undo_11 rfl ?_
    refine hx_geti C (ci := 10) (j := 4) g12 uX10_undo_10 (by decide) rfl (by decide) rfl (by decide +kernel) rfl dX10_undo_12 ?_
    refine hx_iconst (v := 1) C dX10_undo_15 (by decide) ?_
    refine hx_isub C dX10_undo_16 ?_
    refine hx_puti C (ci := 10) (j := 4) tyX10 tyX10_ok nmX10 g12 uX10_undo_10 (by decide) rfl (by decide) rfl (by decide +kernel) rfl rfl (tyX10_ok 4 (by decide)) dX10_undo_17 rfl rfl ?_
    refine hx_iconst (v := 0) C dX10_undo_20 (by decide) ?_
    refine hx_istore_n (lv' := [(1, .int 0), (0, .ref (ad this))]) C dX10_undo_21 rfl hl (by decide) rfl (fun ls hl => ?_)
    exact w_X10_undo_22 C hr u_fuel this 0 (smi X this 4 ((X.1 this 4) - 1)) ls h (lv_sub hl [1, 0] rfl)
  · have h := hx_pos c13 h
    refine hx_ldc (v := (-100002)) C (by decide +kernel) dX10_undo_7 ?_
    obtain ⟨rfl, rfl⟩ := hx_some2 h
    exact hx_iret C hr dX10_undo_9
theorem uX10_append_10 : ∀ w ∈ u_ws RX10 TX10 15, w ∈ wsX10_append := by decide +kernel
def f_X10_append (L : hL) (X : hX) (this : Nat) (a1 : Int32) : Option (Int32 × hX) :=
  (f_X10_in L X a1 1 255).bind fun r1 =>
  if r1 = 0 then
    some ((-100001), X)
  else
    if tk L this 10 then
    if (X.1 this 6) = 140 then
      some ((-100003), X)
    else
      (X.2 this 5).bind fun q6 =>
      if tk L q6 11 then
      if hin (X.1 this 6) (L.2.2 q6) then
      some ((smi (smi X q6 (Int32.toNatClampNeg (X.1 this 6)) (vp_nar .char ((Int32.toUInt32 a1 % 65536).toInt32))) this 6 (((smi X q6 (Int32.toNatClampNeg (X.1 this 6)) (vp_nar .char ((Int32.toUInt32 a1 % 65536).toInt32))).1 this 6) + 1)).1 this 6, smi (smi X q6 (Int32.toNatClampNeg (X.1 this 6)) (vp_nar .char ((Int32.toUInt32 a1 % 65536).toInt32))) this 6 (((smi X q6 (Int32.toNatClampNeg (X.1 this 6)) (vp_nar .char ((Int32.toUInt32 a1 % 65536).toInt32))).1 this 6) + 1))
      else none
      else none
    else none
set_option maxRecDepth 100000 in
set_option maxHeartbeats 4000000 in
theorem c_X10_append {l : Launch} {dC : Nat → ClassId} {dI : Nat → Nat → Nat} {cy : Nat → ClassId} {ad : Nat → Nat} {L : hL} {X : hX} {this : Nat} {a1 : Int32} {r : Int32} {X' : hX} (h : f_X10_append L X this a1 = some (r, X')) : hMet l dC dI cy ad L yX10_append wsX10_append ({ frames := 1, cells := 0, slots := 0, locals := 22 } : Room) [.ref (ad this), .int a1] X (some (.int r)) X' := by
  unfold f_X10_append at h
  refine hx_enter RX10 (plainFor_of_name (by decide)) rfl rfl (Nat.le_of_ble_eq_true rfl) (fun p e s m args below meth c C hr hnm ls hl => ?_)
  have hl : lv_has ls 2 [(0, .ref (ad this)), (1, .int a1)] := hl
  refine hx_iload_n C dX10_append_0 rfl (lv_at hl 1 rfl) ?_
  refine hx_iconst (v := 1) C dX10_append_1 (by decide) ?_
  refine hx_sipush (v := 255) C dX10_append_2 (by decide) ?_
  obtain ⟨r1, e2, h⟩ := hx_bind h
  refine hx_callS (As := [.int a1, .int 1, .int 255]) (rest := []) (n := 3) C (c_X10_in e2) gX10_append_X10_in (by decide +kernel) ⟨Nat.le_of_ble_eq_true rfl, Nat.le_of_ble_eq_true rfl⟩ rfl rfl rfl ⟨Nat.zero_le _, Nat.zero_le _⟩ hl.1 rfl rfl (Nat.le_of_ble_eq_true rfl) dX10_append_5 ?_
  refine hx_if_ne (tgt := 14) C dX10_append_8 (by decide) (fun c3 => ?_) (fun c3 => ?_)
  · have h := hx_neg c3 h
    refine hx_aload_n C dX10_append_14 rfl (lv_at hl 0 rfl) ?_
    obtain ⟨g4, h⟩ := hx_gd h
    refine hx_geti C (ci := 10) (j := 6) g4 uX10_append_10 (by decide) rfl (by decide) rfl (by decide +kernel) rfl dX10_append_15 ?_
    refine hx_sipush (v := 140) C dX10_append_18 (by decide) ?_
    refine hx_icmp_ne (tgt := 27) C dX10_append_21 (by decide) (fun c5 => ?_) (fun c5 => ?_)
    · have h := hx_neg c5 h
      refine hx_aload_n C dX10_append_27 rfl (lv_at hl 0 rfl) ?_
      obtain ⟨q6, e7, h⟩ := hx_bind h
      refine hx_getr C (ci := 10) (j := 5) g4 uX10_append_10 (by decide) rfl (by decide) rfl (by decide +kernel) rfl dX10_append_28 e7 ?_
      refine hx_aload_n C dX10_append_31 rfl (lv_at hl 0 rfl) ?_
      refine hx_geti C (ci := 10) (j := 6) g4 uX10_append_10 (by decide) rfl (by decide) rfl (by decide +kernel) rfl dX10_append_32 ?_
      refine hx_iload_n C dX10_append_35 rfl (lv_at hl 1 rfl) ?_
      refine hx_i2c C dX10_append_36 ?_
      obtain ⟨g8, h⟩ := hx_gd h
      obtain ⟨g9, h⟩ := hx_gd h
      refine hx_cast (n := (Int32.toNatClampNeg (X.1 this 6))) C g8 g9 rfl dX10_append_37 ?_
      refine hx_aload_n C dX10_append_38 rfl (lv_at hl 0 rfl) ?_
      refine hx_dup C dX10_append_39 rfl ?_
      refine hx_geti C (ci := 10) (j := 6) g4 uX10_append_10 (by decide) rfl (by decide) rfl (by decide +kernel) rfl dX10_append_40 ?_
      refine hx_iconst (v := 1) C dX10_append_43 (by decide) ?_
      refine hx_iadd C dX10_append_44 ?_
      refine hx_puti C (ci := 10) (j := 6) tyX10 tyX10_ok nmX10 g4 uX10_append_10 (by decide) rfl (by decide) rfl (by decide +kernel) rfl rfl (tyX10_ok 6 (by decide)) dX10_append_45 rfl rfl ?_
      refine hx_aload_n C dX10_append_48 rfl (lv_at hl 0 rfl) ?_
      refine hx_geti C (ci := 10) (j := 6) g4 uX10_append_10 (by decide) rfl (by decide) rfl (by decide +kernel) rfl dX10_append_49 ?_
      obtain ⟨rfl, rfl⟩ := hx_some2 h
      exact hx_iret C hr dX10_append_52
    · have h := hx_pos c5 h
      refine hx_ldc (v := (-100003)) C (by decide +kernel) dX10_append_24 ?_
      obtain ⟨rfl, rfl⟩ := hx_some2 h
      exact hx_iret C hr dX10_append_26
  · have h := hx_pos c3 h
    refine hx_ldc (v := (-100001)) C (by decide +kernel) dX10_append_11 ?_
    obtain ⟨rfl, rfl⟩ := hx_some2 h
    exact hx_iret C hr dX10_append_13
theorem uX10_clearText_10 : ∀ w ∈ u_ws RX10 TX10 15, w ∈ wsX10_clearText := by decide +kernel
def f_X10_clearText (L : hL) (X : hX) (this : Nat) : Option (Int32 × hX) :=
  if tk L this 10 then
  some (X.1 this 6, smi X this 6 0)
  else none
set_option maxRecDepth 100000 in
set_option maxHeartbeats 4000000 in
theorem c_X10_clearText {l : Launch} {dC : Nat → ClassId} {dI : Nat → Nat → Nat} {cy : Nat → ClassId} {ad : Nat → Nat} {L : hL} {X : hX} {this : Nat} {r : Int32} {X' : hX} (h : f_X10_clearText L X this = some (r, X')) : hMet l dC dI cy ad L yX10_clearText wsX10_clearText ({ frames := 0, cells := 0, slots := 0, locals := 0 } : Room) [.ref (ad this)] X (some (.int r)) X' := by
  unfold f_X10_clearText at h
  refine hx_enter RX10 (plainFor_of_name (by decide)) rfl rfl (Nat.le_of_ble_eq_true rfl) (fun p e s m args below meth c C hr hnm ls hl => ?_)
  have hl : lv_has ls 2 [(0, .ref (ad this))] := hl
  refine hx_aload_n C dX10_clearText_0 rfl (lv_at hl 0 rfl) ?_
  obtain ⟨g1, h⟩ := hx_gd h
  refine hx_geti C (ci := 10) (j := 6) g1 uX10_clearText_10 (by decide) rfl (by decide) rfl (by decide +kernel) rfl dX10_clearText_1 ?_
  refine hx_istore_n (lv' := [(1, .int (X.1 this 6)), (0, .ref (ad this))]) C dX10_clearText_4 rfl hl (by decide) rfl (fun ls hl => ?_)
  refine hx_aload_n C dX10_clearText_5 rfl (lv_at hl 1 rfl) ?_
  refine hx_iconst (v := 0) C dX10_clearText_6 (by decide) ?_
  refine hx_puti C (ci := 10) (j := 6) tyX10 tyX10_ok nmX10 g1 uX10_clearText_10 (by decide) rfl (by decide) rfl (by decide +kernel) rfl rfl (tyX10_ok 6 (by decide)) dX10_clearText_7 rfl rfl ?_
  refine hx_iload_n C dX10_clearText_10 rfl (lv_at hl 0 rfl) ?_
  obtain ⟨rfl, rfl⟩ := hx_some2 h
  exact hx_iret C hr dX10_clearText_11
theorem uX10_isIn_10 : ∀ w ∈ u_ws RX10 TX10 15, w ∈ wsX10_isIn := by decide +kernel
def f_X10_isIn (L : hL) (X : hX) (this : Nat) (a1 : Int32) (a2 : Int32) : Option (Int32) :=
  if tk L this 10 then
  if (X.1 this 6) ≤ (X.1 this 10) then
    some 0
  else
    (X.2 this 5).bind fun q3 =>
    if tk L q3 11 then
    if hin (X.1 this 10) (L.2.2 q3) then
    (f_X10_in L X (X.1 q3 (Int32.toNatClampNeg (X.1 this 10))) a1 a2).bind fun r7 =>
    if r7 = 0 then
      some 0
    else
      some 1
    else none
    else none
  else none
set_option maxRecDepth 100000 in
set_option maxHeartbeats 4000000 in
theorem c_X10_isIn {l : Launch} {dC : Nat → ClassId} {dI : Nat → Nat → Nat} {cy : Nat → ClassId} {ad : Nat → Nat} {L : hL} {X : hX} {this : Nat} {a1 : Int32} {a2 : Int32} {r : Int32} (h : f_X10_isIn L X this a1 a2 = some r) : hMet l dC dI cy ad L yX10_isIn wsX10_isIn ({ frames := 1, cells := 0, slots := 0, locals := 22 } : Room) [.ref (ad this), .int a1, .int a2] X (some (.int r)) X := by
  unfold f_X10_isIn at h
  refine hx_enter RX10 (plainFor_of_name (by decide)) rfl rfl (Nat.le_of_ble_eq_true rfl) (fun p e s m args below meth c C hr hnm ls hl => ?_)
  have hl : lv_has ls 3 [(0, .ref (ad this)), (1, .int a1), (2, .int a2)] := hl
  refine hx_aload_n C dX10_isIn_0 rfl (lv_at hl 0 rfl) ?_
  obtain ⟨g1, h⟩ := hx_gd h
  refine hx_geti C (ci := 10) (j := 10) g1 uX10_isIn_10 (by decide) rfl (by decide) rfl (by decide +kernel) rfl dX10_isIn_1 ?_
  refine hx_aload_n C dX10_isIn_4 rfl (lv_at hl 0 rfl) ?_
  refine hx_geti C (ci := 10) (j := 6) g1 uX10_isIn_10 (by decide) rfl (by decide) rfl (by decide +kernel) rfl dX10_isIn_5 ?_
  refine hx_icmp_ge (tgt := 32) C dX10_isIn_8 (by decide) (fun c2 => ?_) (fun c2 => ?_)
  · have h := hx_pos c2 h
    refine hx_iconst (v := 0) C dX10_isIn_32 (by decide) ?_
    obtain rfl := hx_some1 h
    exact hx_zret C hr rfl dX10_isIn_33
  · have h := hx_neg c2 h
    refine hx_aload_n C dX10_isIn_11 rfl (lv_at hl 0 rfl) ?_
    obtain ⟨q3, e4, h⟩ := hx_bind h
    refine hx_getr C (ci := 10) (j := 5) g1 uX10_isIn_10 (by decide) rfl (by decide) rfl (by decide +kernel) rfl dX10_isIn_12 e4 ?_
    refine hx_aload_n C dX10_isIn_15 rfl (lv_at hl 0 rfl) ?_
    refine hx_geti C (ci := 10) (j := 10) g1 uX10_isIn_10 (by decide) rfl (by decide) rfl (by decide +kernel) rfl dX10_isIn_16 ?_
    obtain ⟨g5, h⟩ := hx_gd h
    obtain ⟨g6, h⟩ := hx_gd h
    refine hx_cald (n := (Int32.toNatClampNeg (X.1 this 10))) C g5 g6 rfl dX10_isIn_19 ?_
    refine hx_iload_n C dX10_isIn_20 rfl (lv_at hl 1 rfl) ?_
    refine hx_iload_n C dX10_isIn_21 rfl (lv_at hl 2 rfl) ?_
    obtain ⟨r7, e8, h⟩ := hx_bind h
    refine hx_callS (As := [.int (X.1 q3 (Int32.toNatClampNeg (X.1 this 10))), .int a1, .int a2]) (rest := []) (n := 3) C (c_X10_in e8) gX10_isIn_X10_in (by decide +kernel) ⟨Nat.le_of_ble_eq_true rfl, Nat.le_of_ble_eq_true rfl⟩ rfl rfl rfl ⟨Nat.zero_le _, Nat.zero_le _⟩ hl.1 rfl rfl (Nat.le_of_ble_eq_true rfl) dX10_isIn_22 ?_
    refine hx_if_eq (tgt := 32) C dX10_isIn_25 (by decide) (fun c9 => ?_) (fun c9 => ?_)
    · have h := hx_pos c9 h
      refine hx_iconst (v := 0) C dX10_isIn_32 (by decide) ?_
      obtain rfl := hx_some1 h
      exact hx_zret C hr rfl dX10_isIn_33
    · have h := hx_neg c9 h
      refine hx_iconst (v := 1) C dX10_isIn_28 (by decide) ?_
      refine hx_goto (tgt := 33) C dX10_isIn_29 (by decide) ?_
      obtain rfl := hx_some1 h
      exact hx_zret C hr rfl dX10_isIn_33
