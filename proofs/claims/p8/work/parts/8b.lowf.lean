theorem zz_8b_lowf : True := trivial
