theorem zz_8b_lowh : True := trivial
