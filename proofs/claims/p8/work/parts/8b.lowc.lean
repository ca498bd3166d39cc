theorem zz_8b_lowc : True := trivial
