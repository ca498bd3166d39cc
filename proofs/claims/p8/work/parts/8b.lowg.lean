theorem zz_8b_lowg : True := trivial
